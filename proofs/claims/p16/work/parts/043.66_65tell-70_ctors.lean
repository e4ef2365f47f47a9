def ld (b : Nat → Nat) (v : Nat) : Int32 := nI (b (v + 1)) - nI (b v)
def lA (b : Nat → Nat) (v : Nat) : Int32 := if ld b v = (30 : Int32) then (51 : Int32) else (50 : Int32)
def lC (b : Nat → Nat) (v : Nat) : Int32 := if ld b v = (30 : Int32) then (48 : Int32) else (57 : Int32)
def tW (v w : Nat) : Nat := if v = 0 then w else w + 1
def tO (v w : Nat) (o : Nat → Int32) : Nat → Int32 := if v = 0 then o else upd o w (32 : Int32)
def tF (b : Nat → Nat) : Nat → Nat → Nat → (Nat → Int32) → Nat × (Nat → Int32)
  | 0, _, w, o => (w, o)
  | k + 1, v, w, o => tF b k (v + 1) (tW v w + 2) (upd (upd (tO v w o) (tW v w) (lA b v)) (tW v w + 1) (lC b v))
theorem upd_2 {f g : Nat → Int32} {i k : Nat} {x : Int32} (h : ¬ k = i → f k = g k) : upd f i x k = upd g i x k := by
  unfold upd
  by_cases c : k = i
  · rw [if_pos c, if_pos c]
  · rw [if_neg c, if_neg c]
    exact h c
theorem tF_same (b : Nat → Nat) : ∀ (k v w : Nat) (o o' : Nat → Int32), (∀ j, j < w → o j = o' j) → (tF b k v w o).1 = (tF b k v w o').1 ∧ ∀ j, j < (tF b k v w o).1 → (tF b k v w o).2 j = (tF b k v w o').2 j := by
  intro k
  induction k with
  | zero => intro v w o o' h; exact ⟨rfl, h⟩
  | succ k ih =>
    intro v w o o' h
    rw [tF, tF]
    refine ih _ _ _ _ (fun j hj => upd_2 (fun c1 => upd_2 (fun c2 => ?_)))
    unfold tO
    unfold tW at hj c1 c2
    by_cases c : v = 0
    · rw [if_pos c, if_pos c]
      rw [if_pos c] at hj c1 c2
      exact h j (by omega)
    · rw [if_neg c, if_neg c]
      rw [if_neg c] at hj c1 c2
      exact upd_2 (fun c3 => h j (by omega))
theorem tF_le (b : Nat → Nat) : ∀ (k v w : Nat) (o : Nat → Int32), w ≤ 3 * v → (tF b k v w o).1 ≤ 3 * (v + k) := by
  intro k
  induction k with
  | zero => intro v w o h; exact h
  | succ k ih =>
    intro v w o h
    rw [tF]
    have := ih (v + 1) (tW v w + 2) (upd (upd (tO v w o) (tW v w) (lA b v)) (tW v w + 1) (lC b v)) (by unfold tW; split <;> omega)
    omega
theorem po_eq {w : Nat} {o : Nat → Int32} {s : Int32} (hw : w < 72) (hs : vp_nar .byte (s.toInt8.toInt32) = s) : fX11_putOut (nI w) o s = (nI (w + 1), upd o w s) := by
  unfold fX11_putOut bfX11_putOut_33
  rw [if_neg (fun q => by have := i32le.mp q; rw [nI_toInt (by omega), show (72 : Int32).toInt = 72 by decide] at this; omega), nI_clamp (by omega), nI_1, hs]
theorem bt32 : vp_nar .byte ((32 : Int32).toInt8.toInt32) = (32 : Int32) := by rw [vp_nar_byte]; decide
theorem bt48 : vp_nar .byte ((48 : Int32).toInt8.toInt32) = (48 : Int32) := by rw [vp_nar_byte]; decide
theorem bt50 : vp_nar .byte ((50 : Int32).toInt8.toInt32) = (50 : Int32) := by rw [vp_nar_byte]; decide
theorem bt51 : vp_nar .byte ((51 : Int32).toInt8.toInt32) = (51 : Int32) := by rw [vp_nar_byte]; decide
theorem bt57 : vp_nar .byte ((57 : Int32).toInt8.toInt32) = (57 : Int32) := by rw [vp_nar_byte]; decide
theorem te_s (x_outLength : Int32) (x_courtStands : Int32) (x_courtNews : Int32) (x_tallyStands : Int32) (c_queueLength : Int32) (c_takenBits : Int32) (fve : Nat → Int32) (fqu : Nat → Int32) (ftu : Nat → Int64) (fcb : Nat → Int32) (fmonths : Int32) (ffull : Int32) (flean : Int32) (ffal : Nat → Int32) (ffon : Nat → Int32) (fxo : Nat → Int32) (amonths : Int32) (afull : Int32) (alean : Int32) (ahasMoon : Int32) (amoonStart : Int32) (amoonStep : Int32) (areportCount : Int32) (p_name : Nat → Int32) (p_trust : Nat → Int32) (r_place : Nat → Int32) (r_kind : Nat → Int32) (r_month : Nat → Int32) (r_day : Nat → Int32) (r_known : Nat → Int32) (r_struck : Nat → Int32) (p1 : Int32) (z : Nat) (v3 : Int32) (w0_11 : Int32) (w0_12 : Int32) (w0_13 : Int32) (w0_14 : Int32) (w1_5 : Int32) (w1_6 : Int32) (w6_0 : Int32) (w6_1 : Int32) (w6_2 : Int32) (z2 : Nat → Int32) (z3 : Nat → Int32) (z4 : Nat → Int64) (z5 : Nat → Int32) (z7 : Nat → Int32) (z8 : Nat → Int32) (z9 : Nat → Int32) : lfX11_tell x_outLength x_courtStands x_courtNews x_tallyStands c_queueLength c_takenBits fve fqu ftu fcb fmonths ffull flean ffal ffon fxo amonths afull alean ahasMoon amoonStart amoonStep areportCount p_name p_trust r_place r_kind r_month r_day r_known r_struck p1 (z + 1) v3 w0_11 w0_12 w0_13 w0_14 w1_5 w1_6 w6_0 w6_1 w6_2 z2 z3 z4 z5 z7 z8 z9 = dfX11_tell_24 x_outLength x_courtStands x_courtNews x_tallyStands c_queueLength c_takenBits fve fqu ftu fcb fmonths ffull flean ffal ffon fxo amonths afull alean ahasMoon amoonStart amoonStep areportCount p_name p_trust r_place r_kind r_month r_day r_known r_struck p1 (lfX11_tell x_outLength x_courtStands x_courtNews x_tallyStands c_queueLength c_takenBits fve fqu ftu fcb fmonths ffull flean ffal ffon fxo amonths afull alean ahasMoon amoonStart amoonStep areportCount p_name p_trust r_place r_kind r_month r_day r_known r_struck p1 z) v3 w0_11 w0_12 w0_13 w0_14 w1_5 w1_6 w6_0 w6_1 w6_2 z2 z3 z4 z5 z7 z8 z9 := rfl
theorem tlm_s (mi : Nat → Int32) (fm_must : Nat → Int32) (fm_least : Nat → Int32) (fm_pin : Nat → Int32) (fm_ways : Nat → Int32) (fm_verdict : Nat → Int32) (fm_row : Nat → Int32) (fm_struck : Nat → Int32) (fm_reportKnown : Nat → Int32) (fm_reportPlace : Nat → Int32) (fm_reportMonth : Nat → Int32) (fm_reportDay : Nat → Int32) (fm_reportKind : Nat → Int32) (fm_trust : Nat → Int32) (fm_letter : Nat → Int32) (fm_official : Nat → Int32) (fm_out : Nat → Int32) (p1 : Int32) (z : Nat) (v2 : Int32) (w0_37 : Int32) (w0_41 : Int32) (w0_56 : Int32) (z1 : Nat → Int32) (z2 : Nat → Int32) (z3 : Nat → Int32) (z4 : Nat → Int32) (z5 : Nat → Int32) (z6 : Nat → Int32) (z15 : Nat → Int32) (z16 : Nat → Int32) : lfX12_tell mi fm_must fm_least fm_pin fm_ways fm_verdict fm_row fm_struck fm_reportKnown fm_reportPlace fm_reportMonth fm_reportDay fm_reportKind fm_trust fm_letter fm_official fm_out p1 (z + 1) v2 w0_37 w0_41 w0_56 z1 z2 z3 z4 z5 z6 z15 z16 = dfX12_tell_23 mi fm_must fm_least fm_pin fm_ways fm_verdict fm_row fm_struck fm_reportKnown fm_reportPlace fm_reportMonth fm_reportDay fm_reportKind fm_trust fm_letter fm_official fm_out p1 (lfX12_tell mi fm_must fm_least fm_pin fm_ways fm_verdict fm_row fm_struck fm_reportKnown fm_reportPlace fm_reportMonth fm_reportDay fm_reportKind fm_trust fm_letter fm_official fm_out p1 z) v2 w0_37 w0_41 w0_56 z1 z2 z3 z4 z5 z6 z15 z16 := rfl
theorem te_1 {x_outLength : Int32} {x_courtStands : Int32} {x_courtNews : Int32} {x_tallyStands : Int32} {c_queueLength : Int32} {c_takenBits : Int32} {fve : Nat → Int32} {fqu : Nat → Int32} {ftu : Nat → Int64} {fcb : Nat → Int32} {fmonths : Int32} {ffull : Int32} {flean : Int32} {ffal : Nat → Int32} {ffon : Nat → Int32} {fxo : Nat → Int32} {amonths : Int32} {afull : Int32} {alean : Int32} {ahasMoon : Int32} {amoonStart : Int32} {amoonStep : Int32} {areportCount : Int32} {p_name : Nat → Int32} {p_trust : Nat → Int32} {r_place : Nat → Int32} {r_kind : Nat → Int32} {r_month : Nat → Int32} {r_day : Nat → Int32} {r_known : Nat → Int32} {r_struck : Nat → Int32} {p1 : Int32} {K : (Int32 → Int32 → Int32 → Int32 → Int32 → Int32 → Int32 → Int32 → Int32 → Int32 → (Nat → Int32) → (Nat → Int32) → (Nat → Int64) → (Nat → Int32) → (Nat → Int32) → (Nat → Int32) → (Nat → Int32) → (Int32 × Int32 × Int32 × Int32 × Int32 × Int32 × Int32 × Int32 × Int32 × Int32 × (Nat → Int32) × (Nat → Int32) × (Nat → Int64) × (Nat → Int32) × (Nat → Int32) × (Nat → Int32) × (Nat → Int32)))} {w0_12 : Int32} {w0_13 : Int32} {w0_14 : Int32} {w1_5 : Int32} {w1_6 : Int32} {w6_0 : Int32} {w6_1 : Int32} {w6_2 : Int32} {z2 : Nat → Int32} {z3 : Nat → Int32} {z4 : Nat → Int64} {z5 : Nat → Int32} {z7 : Nat → Int32} {z8 : Nat → Int32} {i w : Nat} {o : Nat → Int32} {b : Nat → Nat} (hw : w ≤ 70) (hi : i ≤ 23) (h1 : z5 i = nI (b i)) (h2 : z5 (i + 1) = nI (b (i + 1))) : bfX11_tell_45 x_outLength x_courtStands x_courtNews x_tallyStands c_queueLength c_takenBits fve fqu ftu fcb fmonths ffull flean ffal ffon fxo amonths afull alean ahasMoon amoonStart amoonStep areportCount p_name p_trust r_place r_kind r_month r_day r_known r_struck p1 K (nI i) (nI w) w0_12 w0_13 w0_14 w1_5 w1_6 w6_0 w6_1 w6_2 z2 z3 z4 z5 z7 z8 o = K (nI (i + 1)) (nI (w + 2)) w0_12 w0_13 w0_14 w1_5 w1_6 w6_0 w6_1 w6_2 z2 z3 z4 z5 z7 z8 (upd (upd o w (lA b i)) (w + 1) (lC b i)) := by
  have hl : fX1_lengthOf z5 (nI i) = ld b i := by
    unfold fX1_lengthOf ld
    rw [nI_1, nI_clamp (by omega), nI_clamp (by omega), h1, h2]
  unfold bfX11_tell_45 lA lC
  rw [cal_b, hl]
  by_cases c : ld b i = (30 : Int32)
  · rw [if_pos c, if_pos c, if_pos c]
    unfold bfX11_tell_60
    rw [if_neg (by decide)]
    unfold bfX11_tell_75
    rw [cal_b, po_eq (by omega) bt51, if_neg (by decide)]
    unfold bfX11_tell_91
    dsimp only
    rw [cal_b, po_eq (by omega) bt48, nI_1]
  · rw [if_neg c, if_neg c, if_neg c]
    unfold bfX11_tell_60
    rw [if_pos rfl]
    unfold bfX11_tell_75
    rw [cal_b, po_eq (by omega) bt50, if_pos rfl]
    unfold bfX11_tell_91
    dsimp only
    rw [cal_b, po_eq (by omega) bt57, nI_1]
theorem te_L {x_outLength : Int32} {x_courtStands : Int32} {x_courtNews : Int32} {x_tallyStands : Int32} {c_queueLength : Int32} {c_takenBits : Int32} {fve : Nat → Int32} {fqu : Nat → Int32} {ftu : Nat → Int64} {fcb : Nat → Int32} {fmonths : Int32} {ffull : Int32} {flean : Int32} {ffal : Nat → Int32} {ffon : Nat → Int32} {fxo : Nat → Int32} {amonths : Int32} {afull : Int32} {alean : Int32} {ahasMoon : Int32} {amoonStart : Int32} {amoonStep : Int32} {areportCount : Int32} {p_name : Nat → Int32} {p_trust : Nat → Int32} {r_place : Nat → Int32} {r_kind : Nat → Int32} {r_month : Nat → Int32} {r_day : Nat → Int32} {r_known : Nat → Int32} {r_struck : Nat → Int32} {p1 : Int32} {w0_12 : Int32} {w0_13 : Int32} {w0_14 : Int32} {w1_5 : Int32} {w1_6 : Int32} {w6_0 : Int32} {w6_1 : Int32} {w6_2 : Int32} {z2 : Nat → Int32} {z3 : Nat → Int32} {z4 : Nat → Int64} {z5 : Nat → Int32} {z7 : Nat → Int32} {z8 : Nat → Int32} {M : Nat} {b : Nat → Nat} (hM : M ≤ 24) (hm : amonths = nI M) (hb : ∀ j, j ≤ M → z5 j = nI (b j)) : ∀ (k i z w : Nat) (o : Nat → Int32), i + k = M → k < z → w ≤ 3 * i → lfX11_tell x_outLength x_courtStands x_courtNews x_tallyStands c_queueLength c_takenBits fve fqu ftu fcb fmonths ffull flean ffal ffon fxo amonths afull alean ahasMoon amoonStart amoonStep areportCount p_name p_trust r_place r_kind r_month r_day r_known r_struck p1 z (nI i) (nI w) w0_12 w0_13 w0_14 w1_5 w1_6 w6_0 w6_1 w6_2 z2 z3 z4 z5 z7 z8 o = (nI (tF b k i w o).1, nI (tF b k i w o).1, w0_12, w0_13, w0_14, w1_5, w1_6, w6_0, w6_1, w6_2, z2, z3, z4, z5, z7, z8, (tF b k i w o).2) := by
  intro k
  induction k with
  | zero =>
    intro i z w o hi hz hw
    obtain ⟨z, rfl⟩ : ∃ y, z = y + 1 := ⟨z - 1, by omega⟩
    have e : i = M := by omega
    subst e
    rw [te_s]
    unfold dfX11_tell_24
    rw [if_pos (by rw [hm]; exact Int32.le_refl _), tF]
  | succ k ih =>
    intro i z w o hi hz hw
    obtain ⟨z, rfl⟩ : ∃ y, z = y + 1 := ⟨z - 1, by omega⟩
    rw [te_s]
    unfold dfX11_tell_24
    rw [if_neg (fun q => by rw [hm] at q; have := (nI_leI (by omega) (by omega)).1 q; omega), tF]
    by_cases c : i = 0
    · subst c
      rw [if_pos (by rw [nI_0]; exact Int32.le_refl _), te_1 (b := b) (by omega) (by omega) (hb 0 (by omega)) (hb (0 + 1) (by omega)), ih (0 + 1) z (w + 2) _ (by omega) (by omega) (by omega)]
      rfl
    · rw [if_neg (fun q => by have := i32le.mp q; rw [nI_toInt (by omega), z32] at this; omega), cal_b, po_eq (by omega) bt32]
      dsimp only
      rw [te_1 (b := b) (by omega) (by omega) (hb i (by omega)) (hb (i + 1) (by omega)), ih (i + 1) z (w + 1 + 2) _ (by omega) (by omega) (by omega)]
      unfold tW tO
      rw [if_neg c, if_neg c]
theorem tlm_1 {mi : Nat → Int32} {fm_must : Nat → Int32} {fm_least : Nat → Int32} {fm_pin : Nat → Int32} {fm_ways : Nat → Int32} {fm_verdict : Nat → Int32} {fm_row : Nat → Int32} {fm_struck : Nat → Int32} {fm_reportKnown : Nat → Int32} {fm_reportPlace : Nat → Int32} {fm_reportMonth : Nat → Int32} {fm_reportDay : Nat → Int32} {fm_reportKind : Nat → Int32} {fm_trust : Nat → Int32} {fm_letter : Nat → Int32} {fm_official : Nat → Int32} {fm_out : Nat → Int32} {p1 : Int32} {K : (Int32 → Int32 → Int32 → Int32 → (Nat → Int32) → (Nat → Int32) → (Nat → Int32) → (Nat → Int32) → (Nat → Int32) → (Nat → Int32) → (Nat → Int32) → (Nat → Int32) → (Int32 × Int32 × Int32 × Int32 × (Nat → Int32) × (Nat → Int32) × (Nat → Int32) × (Nat → Int32) × (Nat → Int32) × (Nat → Int32) × (Nat → Int32) × (Nat → Int32)))} {w0_37 : Int32} {w0_41 : Int32} {z1 : Nat → Int32} {z2 : Nat → Int32} {z3 : Nat → Int32} {z4 : Nat → Int32} {z5 : Nat → Int32} {z6 : Nat → Int32} {z15 : Nat → Int32} {i w : Nat} {o : Nat → Int32} {b : Nat → Nat} (hw : w ≤ 70) (hi : i ≤ 23) (h1 : z15 i = nI (b i)) (h2 : z15 (i + 1) = nI (b (i + 1))) : bfX12_tell_56 mi fm_must fm_least fm_pin fm_ways fm_verdict fm_row fm_struck fm_reportKnown fm_reportPlace fm_reportMonth fm_reportDay fm_reportKind fm_trust fm_letter fm_official fm_out p1 K (nI i) w0_37 w0_41 (nI w) z1 z2 z3 z4 z5 z6 z15 o = K (nI (i + 1)) w0_37 w0_41 (nI (w + 2)) z1 z2 z3 z4 z5 z6 z15 (upd (upd o w (lA b i)) (w + 1) (lC b i)) := by
  have hl : fX12_lengthBy z15 (nI i) = ld b i := by
    unfold fX12_lengthBy ld
    rw [nI_1, nI_clamp (by omega), nI_clamp (by omega), h1, h2]
  have e2 : nI w + (2 : Int32) = nI (w + 2) := nI_add w 2
  unfold bfX12_tell_56 lA lC
  rw [cal_b, hl]
  by_cases c : ld b i = (30 : Int32)
  · rw [if_pos c, if_pos c, if_pos c]
    unfold bfX12_tell_81
    rw [cal_b, hl, if_pos c]
    unfold bfX12_tell_109
    rw [nI_1, nI_1, nI_clamp (by omega), nI_clamp (by omega), e2]
  · rw [if_neg c, if_neg c, if_neg c]
    unfold bfX12_tell_81
    rw [cal_b, hl, if_neg c]
    unfold bfX12_tell_109
    rw [nI_1, nI_1, nI_clamp (by omega), nI_clamp (by omega), e2]
theorem tlm_L {mi : Nat → Int32} {fm_must : Nat → Int32} {fm_least : Nat → Int32} {fm_pin : Nat → Int32} {fm_ways : Nat → Int32} {fm_verdict : Nat → Int32} {fm_row : Nat → Int32} {fm_struck : Nat → Int32} {fm_reportKnown : Nat → Int32} {fm_reportPlace : Nat → Int32} {fm_reportMonth : Nat → Int32} {fm_reportDay : Nat → Int32} {fm_reportKind : Nat → Int32} {fm_trust : Nat → Int32} {fm_letter : Nat → Int32} {fm_official : Nat → Int32} {fm_out : Nat → Int32} {p1 : Int32} {w0_37 : Int32} {w0_41 : Int32} {z1 : Nat → Int32} {z2 : Nat → Int32} {z3 : Nat → Int32} {z4 : Nat → Int32} {z5 : Nat → Int32} {z6 : Nat → Int32} {z15 : Nat → Int32} {M : Nat} {b : Nat → Nat} (hM : M ≤ 24) (hm : mi 0 = nI M) (hb : ∀ j, j ≤ M → z15 j = nI (b j)) : ∀ (k i z w : Nat) (o : Nat → Int32), i + k = M → k < z → w ≤ 3 * i → lfX12_tell mi fm_must fm_least fm_pin fm_ways fm_verdict fm_row fm_struck fm_reportKnown fm_reportPlace fm_reportMonth fm_reportDay fm_reportKind fm_trust fm_letter fm_official fm_out p1 z (nI i) w0_37 w0_41 (nI w) z1 z2 z3 z4 z5 z6 z15 o = (nI (tF b k i w o).1, w0_37, w0_41, nI (tF b k i w o).1, z1, z2, z3, z4, z5, z6, z15, (tF b k i w o).2) := by
  intro k
  induction k with
  | zero =>
    intro i z w o hi hz hw
    obtain ⟨z, rfl⟩ : ∃ y, z = y + 1 := ⟨z - 1, by omega⟩
    have e : i = M := by omega
    subst e
    rw [tlm_s]
    unfold dfX12_tell_23
    rw [if_pos (by rw [hm]; exact Int32.le_refl _), tF]
  | succ k ih =>
    intro i z w o hi hz hw
    obtain ⟨z, rfl⟩ : ∃ y, z = y + 1 := ⟨z - 1, by omega⟩
    rw [tlm_s]
    unfold dfX12_tell_23
    rw [if_neg (fun q => by rw [hm] at q; have := (nI_leI (by omega) (by omega)).1 q; omega), tF]
    by_cases c : i = 0
    · subst c
      rw [if_pos (by rw [nI_0]; exact Int32.le_refl _), tlm_1 (b := b) (by omega) (by omega) (hb 0 (by omega)) (hb (0 + 1) (by omega)), ih (0 + 1) z (w + 2) _ (by omega) (by omega) (by omega)]
      rfl
    · rw [if_neg (fun q => by have := i32le.mp q; rw [nI_toInt (by omega), z32] at this; omega), nI_1, nI_clamp (by omega), tlm_1 (b := b) (by omega) (by omega) (hb i (by omega)) (hb (i + 1) (by omega)), ih (i + 1) z (w + 1 + 2) _ (by omega) (by omega) (by omega)]
      unfold tW tO
      rw [if_neg c, if_neg c]
theorem r3_tell {vx : Nat → Int32} {fx : Nat → Nat → Int32} {gx : Nat → Nat → Int64} {mi : Nat → Int32} {fm : Nat → Nat → Int32} (hM : MIp mi fm) (h : REL3 vx fx mi fm) {r r2 : Int32} {v : Nat → Int32} {f : Nat → Nat → Int32} {g : Nat → Nat → Int64} {mi2 : Nat → Int32} {fm2 : Nat → Nat → Int32} {p1 : Int32} (hx : (r, v, f, g) = xs_tell vx fx gx p1) (hm : (r2, mi2, fm2) = ms_tell mi fm p1) : REL3 v f mi2 fm2 ∧ r = r2 := by
  obtain ⟨t1, t2⟩ := tm_of h p1
  obtain ⟨O, hO⟩ : ∃ O, O = fX11_tell (vx 0) (vx 1) (vx 2) (vx 3) (vx 44) (vx 45) (fx 3) (fx 4) (gx 0) (fx 5) (vx 46) (vx 47) (vx 48) (fx 6) (fx 7) (fx 21) (vx 11) (vx 12) (vx 13) (vx 15) (vx 16) (vx 17) (vx 19) (fx 22) (fx 23) (fx 24) (fx 25) (fx 26) (fx 27) (fx 28) (fx 29) p1 := ⟨_, rfl⟩
  obtain ⟨U, hU⟩ : ∃ U, U = fX12_tell mi (fm 14) (fm 15) (fm 16) (fm 17) (fm 18) (fm 19) (fm 4) (fm 7) (fm 2) (fm 5) (fm 6) (fm 3) (fm 0) (fm 1) (fm 20) (fm 23) p1 := ⟨_, rfl⟩
  unfold xs_tell at hx
  unfold ms_tell at hm
  rw [← hO] at hx
  rw [← hU] at hm
  unfold xt_tell at hx
  unfold mt_tell at hm
  simp only [Prod.mk.injEq] at hx hm
  obtain ⟨rfl, rfl, rfl, rfl⟩ := hx
  obtain ⟨rfl, rfl, rfl⟩ := hm
  have hfin : ∀ s : Int32, O.1 = s → U.1 = s → (O.2.1 = U.2.2.2.1 ∧ ∀ j : Nat, (j : Int) < (O.2.1).toInt → O.2.2.2.2.2.2.2.2.2.2.2.2.2.2.2.2 j = U.2.2.2.2.2.2.2.2.2.2.2 j) → CI (aF vx) (aL vx) (aM vx) (aN vx) (vx 15) (vx 16) (vx 17) (nf (fx 25)) (nf (fx 26)) (nf (fx 27)) (aLT fx) (fx 28) (fx 29) O.2.2.1 O.2.2.2.1 O.2.2.2.2.2.1 O.2.2.2.2.2.2.1 O.2.2.2.2.2.2.2.1 O.2.2.2.2.2.2.2.2.1 O.2.2.2.2.2.2.2.2.2.1 O.2.2.2.2.2.2.2.2.2.2.1 O.2.2.2.2.2.2.2.2.2.2.2.1 O.2.2.2.2.2.2.2.2.2.2.2.2.2.1 O.2.2.2.2.2.2.2.2.2.2.2.2.2.2.1 O.2.2.2.2.2.2.2.2.2.2.2.2.2.2.2.1 → REL3 (upd (upd (upd (upd (upd (upd (upd (upd (upd vx 0 O.2.1) 1 O.2.2.1) 2 O.2.2.2.1) 3 O.2.2.2.2.1) 44 O.2.2.2.2.2.1) 45 O.2.2.2.2.2.2.1) 46 O.2.2.2.2.2.2.2.1) 47 O.2.2.2.2.2.2.2.2.1) 48 O.2.2.2.2.2.2.2.2.2.1) (updF (updF (updF (updF (updF (updF fx 3 O.2.2.2.2.2.2.2.2.2.2.1) 4 O.2.2.2.2.2.2.2.2.2.2.2.1) 5 O.2.2.2.2.2.2.2.2.2.2.2.2.2.1) 6 O.2.2.2.2.2.2.2.2.2.2.2.2.2.2.1) 7 O.2.2.2.2.2.2.2.2.2.2.2.2.2.2.2.1) 21 O.2.2.2.2.2.2.2.2.2.2.2.2.2.2.2.2) (upd (upd (upd mi 37 U.2.1) 41 U.2.2.1) 56 U.2.2.2.1) (updF (updF (updF (updF (updF (updF (updF (updF fm 14 U.2.2.2.2.1) 15 U.2.2.2.2.2.1) 16 U.2.2.2.2.2.2.1) 17 U.2.2.2.2.2.2.2.1) 18 U.2.2.2.2.2.2.2.2.1) 19 U.2.2.2.2.2.2.2.2.2.1) 20 U.2.2.2.2.2.2.2.2.2.2.1) 23 U.2.2.2.2.2.2.2.2.2.2.2) ∧ O.1 = U.1 := by
    intro s s1 s2 hOU hC
    refine ⟨r3_keepG h (fun k h1 h2 => ?_) rfl (fun k h1 h2 => ?_) (fun k hk => ?_) ⟨rfl, rfl, rfl⟩ (fun k hk => ?_) h.2.2.2.1 hOU (hi_keep h.2.2.2.2.2.2 (fun k h1 h2 => ?_) (fun k h1 h2 => ?_) ⟨rfl, rfl, rfl, rfl⟩) hC, s1.trans s2.symm⟩
    · repeat rw [upd_ne (by omega)]
    · repeat rw [updF_ne (by omega)]
    · repeat rw [upd_ne (by omega)]
    · repeat rw [updF_ne (by omega)]
    · repeat rw [upd_ne (by omega)]
    · repeat rw [updF_ne (by omega)]
  unfold fX11_tell at hO
  unfold fX12_tell at hU
  obtain ⟨o1, e1, hO⟩ := cal_out hO
  obtain ⟨u1, f1, hU⟩ := cal_out hU
  rw [t1, ← f1] at e1
  rw [← f1] at t2
  rcases t2 with t2 | ⟨t2, n3, _, _⟩
  · rw [if_pos (e1.trans t2)] at hO
    rw [if_pos t2] at hU
    refine hfin (-2) (by rw [hO]) (by rw [hU]) ?_ ?_
    · rw [hO, hU]
      exact h.2.2.2.2.2.1
    · rw [hO]
      exact h.2.2.2.2.1
  rw [if_neg (by rw [e1, t2]; decide)] at hO
  rw [if_neg (by rw [t2]; decide)] at hU
  obtain ⟨o2, e2, hO⟩ := cal_out hO
  obtain ⟨hCT, hCI⟩ := cq_of hM h n3 p1 e2
  obtain ⟨u2, f2, hU⟩ := cal_out hU
  obtain ⟨must, least, pin, ways, ve, row, of, rmn, g1, g2, g3⟩ := qo_of hM h n3 mi (fun _ _ => rfl) ⟨rfl, rfl, rfl⟩ (fm 14) (fm 15) (fm 16) (fm 17) (fm 18) (fm 19) (fm 20) p1
  rw [g1] at f2
  subst f2
  dsimp only at hU
  obtain ⟨⟨q1, _⟩, ⟨_, d2, _⟩, _⟩ := ad_of hM h n3
  obtain ⟨k0, _⟩ := rd_of hM h n3
  have hO := hO.trans (te_L (M := aM vx) (b := aBg vx fx p1) d2 q1 hCT.2.2.2.2.2.2.2.1 (aM vx) 0 1000000000 0 (fx 21) (by omega) (by omega) (by omega))
  have hU := hU.trans (tlm_L (M := aM vx) (b := aBg vx fx p1) d2 k0 g3 (aM vx) 0 1000000000 0 (fm 23) (by omega) (by omega) (by omega))
  obtain ⟨s1, s2⟩ := tF_same (aBg vx fx p1) (aM vx) 0 0 (fx 21) (fm 23) (fun j hj => absurd hj (by omega))
  have s3 := tF_le (aBg vx fx p1) (aM vx) 0 0 (fx 21) (by omega)
  rw [← s1] at hU
  refine hfin (nI (tF (aBg vx fx p1) (aM vx) 0 0 (fx 21)).1) (by rw [hO]) (by rw [hU]) ?_ ?_
  · rw [hO, hU]
    refine ⟨rfl, fun j hj => s2 j ?_⟩
    have hj : (j : Int) < (nI (tF (aBg vx fx p1) (aM vx) 0 0 (fx 21)).1).toInt := hj
    rw [nI_toInt (by omega)] at hj
    omega
  · rw [hO]
    exact hCI
noncomputable abbrev bgA (F L M n : Nat) (hm ms mp : Int32) (kd mo dy : Nat → Nat) (lt : Nat → Nat → Bool) (rn rs : Nat → Int32) (t : Int32) (m : Nat) : Nat := 29 * m + (ofs F L M (jd F L M hm ms mp kd mo dy (lin lt (kC rn rs t) n)).1 m).1
def hE (n : Nat) (rn rs : Nat → Int32) (B : Int32 → Nat → Nat) (M e : Nat) (si be : Nat → Int32) : Prop := ∀ e', e' < e → (tE n rn rs e').toInt ≤ 999 ∧ si e' = tE n rn rs e' ∧ ∀ m, m ≤ M → be (25 * e' + m) = nI (B (tE n rn rs e') m)
theorem tE_s (n : Nat) (rn rs : Nat → Int32) (e : Nat) : tE n rn rs (e + 1) = fX0_newsBehind (nI n) rn rs (tE n rn rs e) := rfl
theorem hE_s {n : Nat} {rn rs : Nat → Int32} {B : Int32 → Nat → Nat} {M e : Nat} {si be bg : Nat → Int32} (hM : M ≤ 24) (h : hE n rn rs B M e si be) (h1 : (tE n rn rs e).toInt ≤ 999) (h2 : ∀ m, m ≤ M → bg m = nI (B (tE n rn rs e) m)) : hE n rn rs B M (e + 1) (upd si e (tE n rn rs e)) (va_cpy bg be 0 (25 * e) 25) := by
  intro e' he
  by_cases c : e' = e
  · subst c
    refine ⟨h1, if_pos rfl, fun m hm => ?_⟩
    show (if 25 * e' ≤ 25 * e' + m ∧ 25 * e' + m < 25 * e' + 25 then bg (0 + (25 * e' + m - 25 * e')) else _) = _
    rw [if_pos ⟨by omega, by omega⟩, show 0 + (25 * e' + m - 25 * e') = m by omega]
    exact h2 m hm
  · obtain ⟨a1, a2, a3⟩ := h e' (by omega)
    refine ⟨a1, (if_neg c).trans a2, fun m hm => ?_⟩
    show (if 25 * e ≤ 25 * e' + m ∧ 25 * e' + m < 25 * e + 25 then _ else be (25 * e' + m)) = _
    rw [if_neg (by omega)]
    exact a3 m hm
theorem hf_s (fhsi : Nat → Int32) (fhbe : Nat → Int32) (o_queueLength : Int32) (o_takenBits : Int32) (fove : Nat → Int32) (foqu : Nat → Int32) (fotu : Nat → Int64) (focb : Nat → Int32) (of_months : Int32) (of_full : Int32) (of_lean : Int32) (fofal : Nat → Int32) (fofon : Nat → Int32) (amonths : Int32) (afull : Int32) (alean : Int32) (ahasMoon : Int32) (amoonStart : Int32) (amoonStep : Int32) (areportCount : Int32) (p_name : Nat → Int32) (p_trust : Nat → Int32) (r_place : Nat → Int32) (r_kind : Nat → Int32) (r_month : Nat → Int32) (r_day : Nat → Int32) (r_known : Nat → Int32) (r_struck : Nat → Int32) (z : Nat) (v3 : Int32) (w0_2 : Int32) (w3_5 : Int32) (w3_6 : Int32) (w8_0 : Int32) (w8_1 : Int32) (w8_2 : Int32) (z1 : Nat → Int32) (z2 : Nat → Int32) (z4 : Nat → Int32) (z5 : Nat → Int32) (z6 : Nat → Int64) (z7 : Nat → Int32) (z9 : Nat → Int32) (z10 : Nat → Int32) : lfX4_fill fhsi fhbe o_queueLength o_takenBits fove foqu fotu focb of_months of_full of_lean fofal fofon amonths afull alean ahasMoon amoonStart amoonStep areportCount p_name p_trust r_place r_kind r_month r_day r_known r_struck (z + 1) v3 w0_2 w3_5 w3_6 w8_0 w8_1 w8_2 z1 z2 z4 z5 z6 z7 z9 z10 = dfX4_fill_7 fhsi fhbe o_queueLength o_takenBits fove foqu fotu focb of_months of_full of_lean fofal fofon amonths afull alean ahasMoon amoonStart amoonStep areportCount p_name p_trust r_place r_kind r_month r_day r_known r_struck (lfX4_fill fhsi fhbe o_queueLength o_takenBits fove foqu fotu focb of_months of_full of_lean fofal fofon amonths afull alean ahasMoon amoonStart amoonStep areportCount p_name p_trust r_place r_kind r_month r_day r_known r_struck z) v3 w0_2 w3_5 w3_6 w8_0 w8_1 w8_2 z1 z2 z4 z5 z6 z7 z9 z10 := rfl
theorem hf_L {fhsi : Nat → Int32} {fhbe : Nat → Int32} {o_queueLength : Int32} {o_takenBits : Int32} {fove : Nat → Int32} {foqu : Nat → Int32} {fotu : Nat → Int64} {focb : Nat → Int32} {of_months : Int32} {of_full : Int32} {of_lean : Int32} {fofal : Nat → Int32} {fofon : Nat → Int32} {amonths : Int32} {afull : Int32} {alean : Int32} {ahasMoon : Int32} {amoonStart : Int32} {amoonStep : Int32} {areportCount : Int32} {p_name : Nat → Int32} {p_trust : Nat → Int32} {r_place : Nat → Int32} {r_kind : Nat → Int32} {r_month : Nat → Int32} {r_day : Nat → Int32} {r_known : Nat → Int32} {r_struck : Nat → Int32} {M F L n m : Nat} {tr nm pl kd mo dy : Nat → Nat} (hD : AD M F L n m tr nm pl kd mo dy amonths afull alean areportCount p_name p_trust r_place r_kind r_month r_day r_known) : ∀ (k e z : Nat) (w3_5 : Int32) (w3_6 : Int32) (w8_0 : Int32) (w8_1 : Int32) (w8_2 : Int32) (z1 : Nat → Int32) (z2 : Nat → Int32) (z4 : Nat → Int32) (z5 : Nat → Int32) (z6 : Nat → Int64) (z7 : Nat → Int32) (z9 : Nat → Int32) (z10 : Nat → Int32), e + k = 25 → k < z → oZ z10 → hE n r_known r_struck (bgA F L M n ahasMoon amoonStart amoonStep kd mo dy (ltr tr nm pl mo dy kd) r_known r_struck) M e z1 z2 → ∃ (E : Nat) (ql tb a b c : Int32) (si be ve qu : Nat → Int32) (tu : Nat → Int64) (bg al on : Nat → Int32), lfX4_fill fhsi fhbe o_queueLength o_takenBits fove foqu fotu focb of_months of_full of_lean fofal fofon amonths afull alean ahasMoon amoonStart amoonStep areportCount p_name p_trust r_place r_kind r_month r_day r_known r_struck z (tE n r_known r_struck e) (nI e) w3_5 w3_6 w8_0 w8_1 w8_2 z1 z2 z4 z5 z6 z7 z9 z10 = (nI E, ql, tb, a, b, c, si, be, ve, qu, tu, bg, al, on) ∧ oZ on ∧ E ≤ 25 ∧ hE n r_known r_struck (bgA F L M n ahasMoon amoonStart amoonStep kd mo dy (ltr tr nm pl mo dy kd) r_known r_struck) M E si be ∧ (E = 25 ∨ ¬ (tE n r_known r_struck E).toInt ≤ 999) := by
  obtain ⟨⟨rfl, rfl, rfl, rfl⟩, ⟨b1, b2, b3, b4, b5, b6, b7, b8⟩, hW, hP, hR, hN⟩ := hD
  intro k
  induction k with
  | zero =>
    intro e z w3_5 w3_6 w8_0 w8_1 w8_2 z1 z2 z4 z5 z6 z7 z9 z10 hi hz hZ hh
    obtain ⟨z, rfl⟩ : ∃ y, z = y + 1 := ⟨z - 1, by omega⟩
    have e9 : e = 25 := by omega
    subst e9
    rw [hf_s]
    unfold dfX4_fill_7 bfX4_fill_79
    rw [if_pos (by decide)]
    exact ⟨25, _, _, _, _, _, _, _, _, _, _, _, _, _, rfl, hZ, by omega, hh, Or.inl rfl⟩
  | succ k ih =>
    intro e z w3_5 w3_6 w8_0 w8_1 w8_2 z1 z2 z4 z5 z6 z7 z9 z10 hi hz hZ hh
    obtain ⟨z, rfl⟩ : ∃ y, z = y + 1 := ⟨z - 1, by omega⟩
    rw [hf_s]
    unfold dfX4_fill_7 bfX4_fill_79
    rw [if_neg (fun q => by have := i32le.mp q; rw [nI_toInt (by omega), show (25 : Int32).toInt = 25 by decide] at this; omega)]
    by_cases c : (999 : Int32) < tE n r_known r_struck e
    · rw [if_pos c]
      have c := i32lt.mp c
      rw [show (999 : Int32).toInt = 999 by decide] at c
      exact ⟨e, _, _, _, _, _, _, _, _, _, _, _, _, _, rfl, hZ, by omega, hh, Or.inr (by omega)⟩
    · rw [if_neg c]
      have c1 : (tE n r_known r_struck e).toInt ≤ 999 := by
        have c2 : ¬ (999 : Int32).toInt < (tE n r_known r_struck e).toInt := fun q => c (i32lt.mpr q)
        rw [show (999 : Int32).toInt = 999 by decide] at c2
        omega
      obtain ⟨q1, q2, q3, q4, q5, q6, q7, q8, q9, q10, q11, e1, e2⟩ := cj_eq (hm := ahasMoon) (ms := amoonStart) (mp := amoonStep) (fve := z4) (fqu := z5) (fcb := z7) (ffal := z9) (ffon := z10) (ftu := z6) (t := tE n r_known r_struck e) (K := kC r_known r_struck (tE n r_known r_struck e)) hW b7 b8 (by omega) b2 b3 b5 b4 b6 hP hR (fun j hj => decide_eq_true_iff) hZ
      have e25 : (nI e * (25 : Int32)).toNatClampNeg = 25 * e := by
        rw [show (25 : Int32) = nI 25 from rfl, pk_mul, nI_clamp (by omega)]
        omega
      rw [cal_b, e1, cal_b]
      dsimp only
      rw [nI_1, ← tE_s, e25, nI_clamp (by omega)]
      exact ih (e + 1) z _ _ _ _ _ _ _ _ _ _ _ _ _ (by omega) (by omega) e2.2.2.2.2.2.2.2.2.2 (hE_s b2 hh c1 e2.2.2.2.2.2.2.2.1)
theorem hn_of {vx : Nat → Int32} {fx : Nat → Nat → Int32} {gx : Nat → Nat → Int64} {mi : Nat → Int32} {fm : Nat → Nat → Int32} (hM : MIp mi fm) (h : REL3 vx fx mi fm) (h3 : ¬ mi 3 = 0) : ∃ (hs er ql tb a b c : Int32) (si be ve qu : Nat → Int32) (tu : Nat → Int64) (bg al on : Nat → Int32), fX11_historyNow (vx 4) (vx 60) (fx 18) (fx 19) (vx 49) (vx 50) (fx 8) (fx 9) (gx 1) (fx 10) (vx 51) (vx 52) (vx 53) (fx 11) (fx 12) (vx 11) (vx 12) (vx 13) (vx 15) (vx 16) (vx 17) (vx 19) (fx 22) (fx 23) (fx 24) (fx 25) (fx 26) (fx 27) (fx 28) (fx 29) = (hs, er, ql, tb, a, b, c, si, be, ve, qu, tu, bg, al, on) ∧ oZ on ∧ HT vx fx er si be := by
  unfold fX11_historyNow bfX11_historyNow_27
  by_cases c : vx 4 = 0
  · rw [if_pos c, cal_b]
    obtain ⟨E, ql, tb, a, b, c, si, be, ve, qu, tu, bg, al, on, e1, e2, e3, e4, e5⟩ := hf_L (fhsi := fx 18) (fhbe := fx 19) (o_queueLength := vx 49) (o_takenBits := vx 50) (fove := fx 8) (foqu := fx 9) (fotu := gx 1) (focb := fx 10) (of_months := vx 51) (of_full := vx 52) (of_lean := vx 53) (fofal := fx 11) (fofon := fx 12) (ahasMoon := vx 15) (amoonStart := vx 16) (amoonStep := vx 17) (r_struck := fx 29) (ad_of hM h h3) 25 0 1000000000 (vx 49) (vx 50) (vx 51) (vx 52) (vx 53) (fx 18) (fx 19) (fx 8) (fx 9) (gx 1) (fx 10) (fx 11) (fx 12) (by omega) (by omega) h.2.2.2.1.2 (fun e' he => absurd he (by omega))
    unfold fX4_fill
    rw [nI_0] at e1
    have e0 : tE (aN vx) (fx 28) (fx 29) 0 = 0 := rfl
    rw [e0] at e1
    rw [e1]
    exact ⟨_, _, _, _, _, _, _, _, _, _, _, _, _, _, _, rfl, e2, E, e3, rfl, e4, e5⟩
  · rw [if_neg c]
    refine ⟨_, _, _, _, _, _, _, _, _, _, _, _, _, _, _, rfl, h.2.2.2.1.2, ?_⟩
    rcases h.2.2.2.2.2.2 with q | q
    · exact absurd q c
    · exact q
abbrev Q16 : Type := Int32 × Int32 × Int32 × Int32 × Int32 × Int32 × Int32 × Int32 × (Nat → Int32) × (Nat → Int32) × (Nat → Int32) × (Nat → Int32) × (Nat → Int64) × (Nat → Int32) × (Nat → Int32) × (Nat → Int32)
def xt16 (vx : Nat → Int32) (fx : Nat → Nat → Int32) (gx : Nat → Nat → Int64) (O : Q16) : Int32 × (Nat → Int32) × (Nat → Nat → Int32) × (Nat → Nat → Int64) := (O.1, (upd (upd (upd (upd (upd (upd (upd vx 4 O.2.1) 60 O.2.2.1) 49 O.2.2.2.1) 50 O.2.2.2.2.1) 51 O.2.2.2.2.2.1) 52 O.2.2.2.2.2.2.1) 53 O.2.2.2.2.2.2.2.1), (updF (updF (updF (updF (updF (updF (updF fx 18 O.2.2.2.2.2.2.2.2.1) 19 O.2.2.2.2.2.2.2.2.2.1) 8 O.2.2.2.2.2.2.2.2.2.2.1) 9 O.2.2.2.2.2.2.2.2.2.2.2.1) 10 O.2.2.2.2.2.2.2.2.2.2.2.2.2.1) 11 O.2.2.2.2.2.2.2.2.2.2.2.2.2.2.1) 12 O.2.2.2.2.2.2.2.2.2.2.2.2.2.2.2), (updG gx 1 O.2.2.2.2.2.2.2.2.2.2.2.2.1))
theorem e16 {vx : Nat → Int32} {fx : Nat → Nat → Int32} {gx : Nat → Nat → Int64} {mi : Nat → Int32} {fm : Nat → Nat → Int32} (h : REL3 vx fx mi fm) {r : Int32} {v : Nat → Int32} {f : Nat → Nat → Int32} {g : Nat → Nat → Int64} {mi2 : Nat → Int32} {fm2 : Nat → Nat → Int32} {O : Q16} (hx : (r, v, f, g) = xt16 vx fx gx O) (hZ : oZ O.2.2.2.2.2.2.2.2.2.2.2.2.2.2.2) (hH : O.2.1 = 0 ∨ HT vx fx O.2.2.1 O.2.2.2.2.2.2.2.2.1 O.2.2.2.2.2.2.2.2.2.1) (hk : KPT mi fm mi2 fm2) : REL3 v f mi2 fm2 ∧ r = O.1 := by
  unfold xt16 at hx
  simp only [Prod.mk.injEq] at hx
  obtain ⟨rfl, rfl, rfl, rfl⟩ := hx
  refine ⟨r3_keepG h (fun k h1 h2 => ?_) rfl (fun k h1 h2 => ?_) hk.1 hk.2.1 hk.2.2.2 ⟨h.2.2.2.1.1, hZ⟩ ?_ hH h.2.2.2.2.1, rfl⟩
  · repeat rw [upd_ne (by omega)]
  · repeat rw [updF_ne (by omega)]
  · have h5 := h.2.2.2.2.2.1
    unfold OUTx at h5 ⊢
    rw [hk.2.2.1.1, hk.2.2.1.2]
    exact h5
theorem nm_of {vx : Nat → Int32} {fx : Nat → Nat → Int32} {mi : Nat → Int32} {fm : Nat → Nat → Int32} (h : REL3 vx fx mi fm) {p : Int32} (hp : ¬ fX11_hasMonth (vx 11) p (0 : Int32) (vx 11) = 0) : ¬ mi 3 = 0 := by
  obtain ⟨m1, m2, m3, m4⟩ := dat_M h.1.2
  have w1 : vx 11 = mi 0 := h.1.2.1.1.1
  rw [dx_month, w1] at hp
  by_cases c : 0 < (mi 0).toInt
  · exact m1.1 c
  · exact absurd (if_neg (fun q => c q.1)) hp
theorem nd_of {vx : Nat → Int32} {fx : Nat → Nat → Int32} {mi : Nat → Int32} {fm : Nat → Nat → Int32} (h : REL3 vx fx mi fm) {p : Int32} (hp : ¬ fX11_hasDeed (vx 20) p = 0) : ¬ mi 3 = 0 := by
  obtain ⟨m1, m2, m3, m4⟩ := dat_M h.1.2
  have w1 : vx 11 = mi 0 := h.1.2.1.1.1
  have eM := clN (x := vx 11) (by rw [w1]; omega)
  have eM2 : (aM vx : Int) = (mi 0).toInt := by rw [← w1]; exact eM.2
  obtain ⟨a1, a2⟩ := dd_of h p
  rcases a2 with a2 | ⟨_, _, _, _, a, b, c, _, _, _, h1, _⟩
  · exact absurd (a1.trans a2) hp
  · exact m1.1 (by omega)
theorem p3_shifts {vx : Nat → Int32} {fx : Nat → Nat → Int32} {gx : Nat → Nat → Int64} {mi : Nat → Int32} {fm : Nat → Nat → Int32} (hM : MIp mi fm) (h : REL3 vx fx mi fm) {r r2 : Int32} {v : Nat → Int32} {f : Nat → Nat → Int32} {g : Nat → Nat → Int64} {mi2 : Nat → Int32} {fm2 : Nat → Nat → Int32} {p1 : Int32} (hx : (r, v, f, g) = xs_shifts vx fx gx p1) (hm : (r2, mi2, fm2) = ms_shifts mi fm p1) : REL3 v f mi2 fm2 := by
  obtain ⟨O, hO⟩ : ∃ O, O = fX11_shifts (vx 4) (vx 60) (fx 18) (fx 19) (vx 49) (vx 50) (fx 8) (fx 9) (gx 1) (fx 10) (vx 51) (vx 52) (vx 53) (fx 11) (fx 12) (vx 11) (vx 12) (vx 13) (vx 15) (vx 16) (vx 17) (vx 19) (fx 22) (fx 23) (fx 24) (fx 25) (fx 26) (fx 27) (fx 28) (fx 29) p1 := ⟨_, rfl⟩
  have hx : (r, v, f, g) = xt16 vx fx gx O := by
    rw [hx, hO]
    rfl
  have hk : KPT mi fm mi2 fm2 := by
    unfold ms_shifts mt_shifts at hm
    simp only [Prod.mk.injEq] at hm
    obtain ⟨rfl, rfl, rfl⟩ := hm
    exact ⟨fun k hk => by repeat rw [upd_ne (by omega)], ⟨rfl, rfl, rfl⟩, ⟨rfl, rfl⟩, fun k hk => by repeat rw [updF_ne (by omega)]⟩
  have hfin : oZ O.2.2.2.2.2.2.2.2.2.2.2.2.2.2.2 → (O.2.1 = 0 ∨ HT vx fx O.2.2.1 O.2.2.2.2.2.2.2.2.1 O.2.2.2.2.2.2.2.2.2.1) → REL3 v f mi2 fm2 := fun a b => (e16 h hx a b hk).1
  unfold fX11_shifts at hO
  obtain ⟨o1, e1, hO⟩ := cal_out hO
  by_cases c1 : o1 = 0
  · rw [if_pos c1] at hO
    refine hfin ?_ ?_
    · rw [hO]
      exact h.2.2.2.1.2
    · rw [hO]
      exact h.2.2.2.2.2.2
  rw [if_neg c1] at hO
  have n3 : ¬ mi 3 = 0 := nm_of h (p := p1) (e1 ▸ c1)
  obtain ⟨hs, er, ql, tb, a, b, c, si, be, ve, qu, tu, bg, al, on, g1, g2, g3⟩ := hn_of (gx := gx) hM h n3
  obtain ⟨o2, e2, hO⟩ := cal_out hO
  rw [g1] at e2
  obtain ⟨o3, e3, hO⟩ := cal_out hO
  subst e2
  refine hfin ?_ (Or.inr ?_)
  · rw [hO]
    exact g2
  · rw [hO]
    exact g3
theorem p3_settled {vx : Nat → Int32} {fx : Nat → Nat → Int32} {gx : Nat → Nat → Int64} {mi : Nat → Int32} {fm : Nat → Nat → Int32} (hM : MIp mi fm) (h : REL3 vx fx mi fm) {r r2 : Int32} {v : Nat → Int32} {f : Nat → Nat → Int32} {g : Nat → Nat → Int64} {mi2 : Nat → Int32} {fm2 : Nat → Nat → Int32} {p1 : Int32} (hx : (r, v, f, g) = xs_settled vx fx gx p1) (hm : (r2, mi2, fm2) = ms_settled mi fm p1) : REL3 v f mi2 fm2 := by
  obtain ⟨O, hO⟩ : ∃ O, O = fX11_settled (vx 4) (vx 60) (fx 18) (fx 19) (vx 49) (vx 50) (fx 8) (fx 9) (gx 1) (fx 10) (vx 51) (vx 52) (vx 53) (fx 11) (fx 12) (vx 11) (vx 12) (vx 13) (vx 15) (vx 16) (vx 17) (vx 19) (fx 22) (fx 23) (fx 24) (fx 25) (fx 26) (fx 27) (fx 28) (fx 29) p1 := ⟨_, rfl⟩
  have hx : (r, v, f, g) = xt16 vx fx gx O := by
    rw [hx, hO]
    rfl
  have hk : KPT mi fm mi2 fm2 := by
    unfold ms_settled mt_settled at hm
    simp only [Prod.mk.injEq] at hm
    obtain ⟨rfl, rfl, rfl⟩ := hm
    exact ⟨fun k hk => by repeat rw [upd_ne (by omega)], ⟨rfl, rfl, rfl⟩, ⟨rfl, rfl⟩, fun k hk => by repeat rw [updF_ne (by omega)]⟩
  have hfin : oZ O.2.2.2.2.2.2.2.2.2.2.2.2.2.2.2 → (O.2.1 = 0 ∨ HT vx fx O.2.2.1 O.2.2.2.2.2.2.2.2.1 O.2.2.2.2.2.2.2.2.2.1) → REL3 v f mi2 fm2 := fun a b => (e16 h hx a b hk).1
  unfold fX11_settled at hO
  obtain ⟨o1, e1, hO⟩ := cal_out hO
  by_cases c1 : o1 = 0
  · rw [if_pos c1] at hO
    refine hfin ?_ ?_
    · rw [hO]
      exact h.2.2.2.1.2
    · rw [hO]
      exact h.2.2.2.2.2.2
  rw [if_neg c1] at hO
  have n3 : ¬ mi 3 = 0 := nm_of h (p := p1) (e1 ▸ c1)
  obtain ⟨hs, er, ql, tb, a, b, c, si, be, ve, qu, tu, bg, al, on, g1, g2, g3⟩ := hn_of (gx := gx) hM h n3
  obtain ⟨o2, e2, hO⟩ := cal_out hO
  rw [g1] at e2
  obtain ⟨o3, e3, hO⟩ := cal_out hO
  subst e2
  refine hfin ?_ (Or.inr ?_)
  · rw [hO]
    exact g2
  · rw [hO]
    exact g3
theorem p3_redated {vx : Nat → Int32} {fx : Nat → Nat → Int32} {gx : Nat → Nat → Int64} {mi : Nat → Int32} {fm : Nat → Nat → Int32} (hM : MIp mi fm) (h : REL3 vx fx mi fm) {r r2 : Int32} {v : Nat → Int32} {f : Nat → Nat → Int32} {g : Nat → Nat → Int64} {mi2 : Nat → Int32} {fm2 : Nat → Nat → Int32} {p1 : Int32} (hx : (r, v, f, g) = xs_redated vx fx gx p1) (hm : (r2, mi2, fm2) = ms_redated mi fm p1) : REL3 v f mi2 fm2 := by
  obtain ⟨O, hO⟩ : ∃ O, O = fX11_redated (vx 4) (vx 60) (fx 18) (fx 19) (vx 49) (vx 50) (fx 8) (fx 9) (gx 1) (fx 10) (vx 51) (vx 52) (vx 53) (fx 11) (fx 12) (vx 11) (vx 12) (vx 13) (vx 15) (vx 16) (vx 17) (vx 19) (vx 20) (fx 22) (fx 23) (fx 24) (fx 25) (fx 26) (fx 27) (fx 28) (fx 29) (fx 30) (fx 31) (fx 32) (fx 33) p1 := ⟨_, rfl⟩
  have hx : (r, v, f, g) = xt16 vx fx gx O := by
    rw [hx, hO]
    rfl
  have hk : KPT mi fm mi2 fm2 := by
    unfold ms_redated mt_redated at hm
    simp only [Prod.mk.injEq] at hm
    obtain ⟨rfl, rfl, rfl⟩ := hm
    exact ⟨fun k hk => by repeat rw [upd_ne (by omega)], ⟨rfl, rfl, rfl⟩, ⟨rfl, rfl⟩, fun k hk => by repeat rw [updF_ne (by omega)]⟩
  have hfin : oZ O.2.2.2.2.2.2.2.2.2.2.2.2.2.2.2 → (O.2.1 = 0 ∨ HT vx fx O.2.2.1 O.2.2.2.2.2.2.2.2.1 O.2.2.2.2.2.2.2.2.2.1) → REL3 v f mi2 fm2 := fun a b => (e16 h hx a b hk).1
  unfold fX11_redated bfX11_redated_32 at hO
  obtain ⟨o1, e1, hO⟩ := cal_out hO
  by_cases c1 : o1 = 0
  · rw [if_pos c1] at hO
    refine hfin ?_ ?_
    · rw [hO]
      exact h.2.2.2.1.2
    · rw [hO]
      exact h.2.2.2.2.2.2
  rw [if_neg c1] at hO
  have n3 : ¬ mi 3 = 0 := nd_of h (p := p1) (e1 ▸ c1)
  obtain ⟨hs, er, ql, tb, a, b, c, si, be, ve, qu, tu, bg, al, on, g1, g2, g3⟩ := hn_of (gx := gx) hM h n3
  obtain ⟨o2, e2, hO⟩ := cal_out hO
  rw [g1] at e2
  obtain ⟨o3, e3, hO⟩ := cal_out hO
  obtain ⟨o4, e4, hO⟩ := cal_out hO
  subst e2
  refine hfin ?_ (Or.inr ?_)
  · rw [hO]
    exact g2
  · rw [hO]
    exact g3
def nwF (rn rs : Nat → Int32) (t : Int32) : Nat → Nat → Int32 → Int32
  | 0, _, v => v
  | k + 1, i, v => nwF rn rs t k (i + 1) (if rs i = 0 then (if rn i ≤ t then v else (if rn i < v then rn i else v)) else v)
theorem nwF_cong {rn rs fn fs : Nat → Int32} {t : Int32} : ∀ (k i : Nat) (v : Int32), (∀ j, j < i + k → fn j = rn j ∧ fs j = rs j) → nwF fn fs t k i v = nwF rn rs t k i v := by
  intro k
  induction k with
  | zero => intro i v h; rfl
  | succ k ih =>
    intro i v h
    rw [nwF, nwF, (h i (by omega)).1, (h i (by omega)).2]
    exact ih (i + 1) _ (fun j hj => h j (by omega))
theorem nwF_is {rn rs : Nat → Int32} {t : Int32} : ∀ (k i : Nat) (v : Int32), nwF rn rs t k i v = v ∨ ∃ j, j < i + k ∧ ¬ rn j ≤ t ∧ nwF rn rs t k i v = rn j := by
  intro k
  induction k with
  | zero => intro i v; exact Or.inl rfl
  | succ k ih =>
    intro i v
    rw [nwF]
    rcases ih (i + 1) (if rs i = 0 then (if rn i ≤ t then v else (if rn i < v then rn i else v)) else v) with e | ⟨j, hj, h1, h2⟩
    · rw [e]
      split
      · split
        · exact Or.inl rfl
        · rename_i c
          split
          · exact Or.inr ⟨i, by omega, c, rfl⟩
          · exact Or.inl rfl
      · exact Or.inl rfl
    · exact Or.inr ⟨j, by omega, h1, h2⟩
theorem nb_s (areportCount : Int32) (r_known : Nat → Int32) (r_struck : Nat → Int32) (p1 : Int32) (z : Nat) (v2 v3 : Int32) : lfX0_newsBehind areportCount r_known r_struck p1 (z + 1) v2 v3 = dfX0_newsBehind_6 areportCount r_known r_struck p1 (lfX0_newsBehind areportCount r_known r_struck p1 z) v2 v3 := rfl
theorem nt_s (mi : Nat → Int32) (fm_struck : Nat → Int32) (fm_reportKnown : Nat → Int32) (p1 : Int32) (z : Nat) (v2 v3 : Int32) : lfX12_nextTime mi fm_struck fm_reportKnown p1 (z + 1) v2 v3 = dfX12_nextTime_6 mi fm_struck fm_reportKnown p1 (lfX12_nextTime mi fm_struck fm_reportKnown p1 z) v2 v3 := rfl
theorem nb_L {n : Nat} {rn rs : Nat → Int32} {t : Int32} (hn : n ≤ 24) : ∀ (k i z : Nat) (v : Int32), i + k = n → k < z → lfX0_newsBehind (nI n) rn rs t z v (nI i) = nwF rn rs t k i v := by
  intro k
  induction k with
  | zero =>
    intro i z v hi hz
    obtain ⟨z, rfl⟩ : ∃ y, z = y + 1 := ⟨z - 1, by omega⟩
    have e : i = n := by omega
    subst e
    rw [nb_s]
    unfold dfX0_newsBehind_6
    rw [if_pos (Int32.le_refl _), nwF]
  | succ k ih =>
    intro i z v hi hz
    obtain ⟨z, rfl⟩ : ∃ y, z = y + 1 := ⟨z - 1, by omega⟩
    rw [nb_s]
    unfold dfX0_newsBehind_6 bfX0_newsBehind_53
    rw [if_neg (fun w => by have := (nI_leI (by omega) (by omega)).1 w; omega), nI_clamp (by omega), nI_1, nwF]
    by_cases c : rs i = 0
    · rw [if_pos c, if_pos c]
      by_cases c2 : rn i ≤ t
      · rw [if_pos c2, if_pos c2]
        exact ih (i + 1) z _ (by omega) (by omega)
      · rw [if_neg c2, if_neg c2]
        exact ih (i + 1) z _ (by omega) (by omega)
    · rw [if_neg c, if_neg c]
      exact ih (i + 1) z _ (by omega) (by omega)
theorem nt_L {n : Nat} {mi rn rs : Nat → Int32} {t : Int32} (hn : n ≤ 24) (h10 : mi 10 = nI n) : ∀ (k i z : Nat) (v : Int32), i + k = n → k < z → lfX12_nextTime mi rs rn t z v (nI i) = nwF rn rs t k i v := by
  intro k
  induction k with
  | zero =>
    intro i z v hi hz
    obtain ⟨z, rfl⟩ : ∃ y, z = y + 1 := ⟨z - 1, by omega⟩
    have e : i = n := by omega
    subst e
    rw [nt_s]
    unfold dfX12_nextTime_6
    rw [h10, if_pos (Int32.le_refl _), nwF]
  | succ k ih =>
    intro i z v hi hz
    obtain ⟨z, rfl⟩ : ∃ y, z = y + 1 := ⟨z - 1, by omega⟩
    rw [nt_s]
    unfold dfX12_nextTime_6 bfX12_nextTime_46 bfX12_nextTime_47
    rw [h10, if_neg (fun w => by have := (nI_leI (by omega) (by omega)).1 w; omega), nI_clamp (by omega), nI_1, nwF]
    by_cases c : rs i = 0
    · rw [if_pos c, if_pos c]
      by_cases c2 : rn i ≤ t
      · rw [if_pos c2, if_pos c2]
        exact ih (i + 1) z _ (by omega) (by omega)
      · rw [if_neg c2, if_neg c2]
        exact ih (i + 1) z _ (by omega) (by omega)
    · rw [if_neg c, if_neg c]
      exact ih (i + 1) z _ (by omega) (by omega)
theorem tE_n {n : Nat} (hn : n ≤ 24) (rn rs : Nat → Int32) (e : Nat) : tE n rn rs (e + 1) = nwF rn rs (tE n rn rs e) n 0 1000 := by
  have q := nb_L (rn := rn) (rs := rs) (t := tE n rn rs e) hn n 0 1000000000 1000 (by omega) (by omega)
  rw [nI_0] at q
  exact q
theorem i1000 : (1000 : Int32).toInt = 1000 := by decide
theorem tE_up {n : Nat} (hn : n ≤ 24) (rn rs : Nat → Int32) (e : Nat) (h : (tE n rn rs e).toInt ≤ 999) : (tE n rn rs e).toInt < (tE n rn rs (e + 1)).toInt := by
  rw [tE_n hn]
  rcases nwF_is (rn := rn) (rs := rs) (t := tE n rn rs e) n 0 1000 with q | ⟨j, _, h1, h2⟩
  · rw [q, i1000]
    omega
  · rw [h2]
    have : ¬ (rn j).toInt ≤ (tE n rn rs e).toInt := fun q => h1 (i32le.mpr q)
    omega
theorem tE_0 {n : Nat} {rn rs : Nat → Int32} : (tE n rn rs 0).toInt = 0 := by
  show (0 : Int32).toInt = 0
  decide
def cN (p : Nat → Bool) : Nat → Nat
  | 0 => 0
  | n + 1 => cN p n + (if p n = true then 1 else 0)
theorem cN_le (p : Nat → Bool) : ∀ n, cN p n ≤ n := by
  intro n
  induction n with
  | zero => exact Nat.le_refl _
  | succ n ih =>
    rw [cN]
    split <;> omega
theorem cN_mono {p q : Nat → Bool} : ∀ n, (∀ j, j < n → p j = true → q j = true) → cN p n ≤ cN q n := by
  intro n
  induction n with
  | zero => intro _; exact Nat.le_refl _
  | succ n ih =>
    intro h
    have h1 := ih (fun j hj => h j (by omega))
    have h2 := h n (by omega)
    rw [cN, cN]
    by_cases c : p n = true
    · rw [if_pos c, if_pos (h2 c)]
      omega
    · rw [if_neg c]
      omega
theorem cN_lt {p q : Nat → Bool} : ∀ n, (∀ j, j < n → p j = true → q j = true) → (∃ j, j < n ∧ q j = true ∧ ¬ p j = true) → cN p n + 1 ≤ cN q n := by
  intro n
  induction n with
  | zero => rintro _ ⟨j, hj, _⟩; omega
  | succ n ih =>
    rintro h ⟨j, hj, h1, h2⟩
    have h3 := h n (by omega)
    rw [cN, cN]
    by_cases c : j = n
    · subst c
      have h4 := cN_mono (p := p) (q := q) j (fun i hi => h i (by omega))
      rw [if_neg h2, if_pos h1]
      omega
    · have h4 := ih (fun i hi => h i (by omega)) ⟨j, by omega, h1, h2⟩
      by_cases c : p n = true
      · rw [if_pos c, if_pos (h3 c)]
        omega
      · rw [if_neg c]
        omega
theorem tE_cnt {n : Nat} (hn : n ≤ 24) (rn rs : Nat → Int32) : ∀ e : Nat, (tE n rn rs e).toInt ≤ 999 → e ≤ cN (fun j => decide ((rn j).toInt ≤ (tE n rn rs e).toInt)) n := by
  intro e
  induction e with
  | zero => intro _; exact Nat.zero_le _
  | succ e ih =>
    intro h
    by_cases c : (tE n rn rs e).toInt ≤ 999
    · have h1 := ih c
      have h2 := tE_up hn rn rs e c
      have h3 : ∃ j, j < n ∧ (tE n rn rs (e + 1)) = rn j := by
        rw [tE_n hn] at h ⊢
        rcases nwF_is (rn := rn) (rs := rs) (t := tE n rn rs e) n 0 1000 with q | ⟨j, h4, _, h5⟩
        · rw [q, i1000] at h
          omega
        · exact ⟨j, by omega, h5⟩
      obtain ⟨j, hj, h4⟩ := h3
      have h5 := cN_lt (p := fun j => decide ((rn j).toInt ≤ (tE n rn rs e).toInt)) (q := fun j => decide ((rn j).toInt ≤ (tE n rn rs (e + 1)).toInt)) n (fun i hi w => by
        have w := of_decide_eq_true w
        exact decide_eq_true (by omega)) ⟨j, hj, decide_eq_true (by rw [h4]; exact Int.le_refl _), fun w => by
        have w := of_decide_eq_true w
        rw [← h4] at w
        omega⟩
      omega
    · exfalso
      rw [tE_n hn] at h
      rcases nwF_is (rn := rn) (rs := rs) (t := tE n rn rs e) n 0 1000 with q | ⟨j, _, h1, h2⟩
      · rw [q, i1000] at h
        omega
      · rw [h2] at h
        have : ¬ (rn j).toInt ≤ (tE n rn rs e).toInt := fun q => h1 (i32le.mpr q)
        omega
theorem tE_pos {n : Nat} (hn : n ≤ 24) (rn rs : Nat → Int32) : ∀ e : Nat, (∀ e', e' < e → (tE n rn rs e').toInt ≤ 999) → (e = 0 ∧ (tE n rn rs e).toInt = 0) ∨ (0 < e ∧ 0 < (tE n rn rs e).toInt) := by
  intro e
  induction e with
  | zero => intro _; exact Or.inl ⟨rfl, tE_0⟩
  | succ e ih =>
    intro h
    have h1 := tE_up hn rn rs e (h e (by omega))
    rcases ih (fun e' he => h e' (by omega)) with ⟨_, q⟩ | ⟨_, q⟩
    · exact Or.inr ⟨by omega, by omega⟩
    · exact Or.inr ⟨by omega, by omega⟩
def hcF (val tt : Nat → Int32) : Nat → Int32 × Int32
  | 0 => (0, 0)
  | e + 1 => if e = 0 ∨ val e = val (e - 1) then hcF val tt e else ((hcF val tt e).1 + 1, tt e)
theorem hcF_cong {val val' tt : Nat → Int32} : ∀ e, (∀ i, 1 ≤ i → i < e → (val i = val (i - 1) ↔ val' i = val' (i - 1))) → hcF val tt e = hcF val' tt e := by
  intro e
  induction e with
  | zero => intro _; rfl
  | succ e ih =>
    intro h
    rw [hcF, hcF, ih (fun i h1 h2 => h i h1 (by omega))]
    by_cases c : e = 0
    · rw [if_pos (Or.inl c), if_pos (Or.inl c)]
    · have q := h e (by omega) (by omega)
      by_cases c2 : val e = val (e - 1)
      · rw [if_pos (Or.inr c2), if_pos (Or.inr (q.1 c2))]
      · rw [if_neg (fun w => w.elim c c2), if_neg (fun w => w.elim c (fun w => c2 (q.2 w)))]
theorem ca_eq {be : Nat → Int32} {e m : Nat} (he : e ≤ 25) (hm : m ≤ 24) (h1 : 1 ≤ e) : fX4_changesAt be (nI e) (nI m) = if be (25 * e + m) = be (25 * (e - 1) + m) then 0 else 1 := by
  have a1 : ((nI e * (25 : Int32)) + nI m).toNatClampNeg = 25 * e + m := by
    rw [show (25 : Int32) = nI 25 from rfl, pk_mul, nI_add, nI_clamp (by omega), Nat.mul_comm]
  have a2 : (((nI e - (1 : Int32)) * (25 : Int32)) + nI m).toNatClampNeg = 25 * (e - 1) + m := by
    obtain ⟨d, rfl⟩ : ∃ d, e = d + 1 := ⟨e - 1, by omega⟩
    rw [nI_pred, show (25 : Int32) = nI 25 from rfl, pk_mul, nI_add, nI_clamp (by omega), Nat.mul_comm]
    rfl
  unfold fX4_changesAt bfX4_changesAt_32
  rw [a1, a2]
theorem co_s (eras : Int32) (be : Nat → Int32) (p0 : Int32) (z : Nat) (v2 v3 : Int32) : lfX4_changesOf eras be p0 (z + 1) v2 v3 = dfX4_changesOf_4 eras be p0 (lfX4_changesOf eras be p0 z) v2 v3 := rfl
theorem lc_s (eras : Int32) (si be : Nat → Int32) (p0 : Int32) (z : Nat) (v2 : Int32) : lfX4_lastChangeOf eras si be p0 (z + 1) v2 = dfX4_lastChangeOf_7 eras si be p0 (lfX4_lastChangeOf eras si be p0 z) v2 := rfl
theorem co_L {E m : Nat} {be val tt : Nat → Int32} (hE : E ≤ 25) (hm : m ≤ 24) (hb : ∀ e, e < E → be (25 * e + m) = val e) : ∀ k e z : Nat, e + k = E → k < z → 1 ≤ e → lfX4_changesOf (nI E) be (nI m) z (hcF val tt e).1 (nI e) = (hcF val tt E).1 := by
  intro k
  induction k with
  | zero =>
    intro e z hi hz h1
    obtain ⟨z, rfl⟩ : ∃ y, z = y + 1 := ⟨z - 1, by omega⟩
    have e9 : e = E := by omega
    subst e9
    rw [co_s]
    unfold dfX4_changesOf_4
    rw [if_pos (Int32.le_refl _)]
  | succ k ih =>
    intro e z hi hz h1
    obtain ⟨z, rfl⟩ : ∃ y, z = y + 1 := ⟨z - 1, by omega⟩
    have q := ih (e + 1) z (by omega) (by omega) (by omega)
    rw [co_s]
    unfold dfX4_changesOf_4 bfX4_changesOf_24
    rw [if_neg (fun w => by have := (nI_leI (by omega) (by omega)).1 w; omega), ca_eq (by omega) hm h1, cal_b, hb e (by omega), hb (e - 1) (by omega), nI_1]
    rw [hcF] at q
    by_cases c : val e = val (e - 1)
    · rw [if_pos (Or.inr c)] at q
      rw [if_pos c, if_pos rfl]
      exact q
    · rw [if_neg (fun w => w.elim (by omega) c)] at q
      rw [if_neg c, if_neg (by decide)]
      exact q
theorem lc_L {E m : Nat} {si be val tt : Nat → Int32} (hE : E ≤ 25) (hm : m ≤ 24) (hb : ∀ e, e < E → be (25 * e + m) = val e) (hs : ∀ e, e < E → si e = tt e) : ∀ e z : Nat, e < E → e < z → lfX4_lastChangeOf (nI E) si be (nI m) z (nI e) = (hcF val tt (e + 1)).2 := by
  intro e
  induction e with
  | zero =>
    intro z h1 hz
    obtain ⟨z, rfl⟩ : ∃ y, z = y + 1 := ⟨z - 1, by omega⟩
    rw [lc_s]
    unfold dfX4_lastChangeOf_7
    rw [if_pos (by rw [nI_0]; decide), hcF, if_pos (Or.inl rfl), hcF]
  | succ e ih =>
    intro z h1 hz
    obtain ⟨z, rfl⟩ : ∃ y, z = y + 1 := ⟨z - 1, by omega⟩
    have q := ih z (by omega) (by omega)
    rw [lc_s]
    unfold dfX4_lastChangeOf_7
    rw [if_neg (fun w => by have w := i32lt.mp w; rw [nI_toInt (by omega), show (1 : Int32).toInt = 1 by decide] at w; omega), ca_eq (by omega) hm (by omega), cal_b, hb (e + 1) (by omega), show e + 1 - 1 = e by omega, hb e (by omega), nI_clamp (by omega), hcF]
    by_cases c : val (e + 1) = val e
    · rw [if_pos c, if_pos rfl, if_pos (show e + 1 = 0 ∨ val (e + 1) = val (e + 1 - 1) from Or.inr (by rw [show e + 1 - 1 = e by omega]; exact c)), ← q, ← Int32.sub_eq_add_neg, nI_pred]
    · rw [if_neg c, if_neg (by decide), if_neg (show ¬ (e + 1 = 0 ∨ val (e + 1) = val (e + 1 - 1)) from fun w => w.elim (by omega) (fun w => c (by rw [show e + 1 - 1 = e by omega] at w; exact w)))]
      exact hs _ h1
theorem fo_s (mi : Nat → Int32) (fm_must : Nat → Int32) (fm_least : Nat → Int32) (fm_pin : Nat → Int32) (fm_ways : Nat → Int32) (fm_verdict : Nat → Int32) (fm_row : Nat → Int32) (fm_struck : Nat → Int32) (fm_reportKnown : Nat → Int32) (fm_reportPlace : Nat → Int32) (fm_reportMonth : Nat → Int32) (fm_reportDay : Nat → Int32) (fm_reportKind : Nat → Int32) (fm_trust : Nat → Int32) (fm_letter : Nat → Int32) (fm_official : Nat → Int32) (fm_deedMonth : Nat → Int32) (fm_deedLong : Nat → Int32) (fm_deedKind : Nat → Int32) (fm_deedDay : Nat → Int32) (p1 : Int32) (p2 : Int32) (z : Nat) (v3 : Int32) (v4 : Int32) (w0_37 : Int32) (w0_41 : Int32) (w0_48 : Int32) (w0_49 : Int32) (z1 : Nat → Int32) (z2 : Nat → Int32) (z3 : Nat → Int32) (z4 : Nat → Int32) (z5 : Nat → Int32) (z6 : Nat → Int32) (z15 : Nat → Int32) : lfX12_follows mi fm_must fm_least fm_pin fm_ways fm_verdict fm_row fm_struck fm_reportKnown fm_reportPlace fm_reportMonth fm_reportDay fm_reportKind fm_trust fm_letter fm_official fm_deedMonth fm_deedLong fm_deedKind fm_deedDay p1 p2 (z + 1) v3 v4 w0_37 w0_41 w0_48 w0_49 z1 z2 z3 z4 z5 z6 z15 = dfX12_follows_15 mi fm_must fm_least fm_pin fm_ways fm_verdict fm_row fm_struck fm_reportKnown fm_reportPlace fm_reportMonth fm_reportDay fm_reportKind fm_trust fm_letter fm_official fm_deedMonth fm_deedLong fm_deedKind fm_deedDay p1 p2 (lfX12_follows mi fm_must fm_least fm_pin fm_ways fm_verdict fm_row fm_struck fm_reportKnown fm_reportPlace fm_reportMonth fm_reportDay fm_reportKind fm_trust fm_letter fm_official fm_deedMonth fm_deedLong fm_deedKind fm_deedDay p1 p2 z) v3 v4 w0_37 w0_41 w0_48 w0_49 z1 z2 z3 z4 z5 z6 z15 := rfl
def pv (val : Nat → Int32) (e : Nat) : Int32 := if e = 0 then 0 else val (e - 1)
theorem fo_L {vx : Nat → Int32} {fx : Nat → Nat → Int32} {mi : Nat → Int32} {fm : Nat → Nat → Int32} (hM : MIp mi fm) (h : REL3 vx fx mi fm) (h3 : ¬ mi 3 = 0) {x1 x2 x3 x4 x5 x6 x7 : Nat → Int32} {p1 p2 : Int32} {E : Nat} {val : Nat → Int32} (hE : E ≤ 25) (ht : ∀ e, e < E → (tE (aN vx) (fx 28) (fx 29) e).toInt ≤ 999) (hx : ¬ (tE (aN vx) (fx 28) (fx 29) E).toInt ≤ 999) (hv : ∀ e, e < E → ∀ of : Nat → Int32, (∀ j, j ≤ aM vx → of j = nI (aBg vx fx (tE (aN vx) (fx 28) (fx 29) e) j)) → (p2 = -1 ∧ of p1.toNatClampNeg = val e) ∨ (¬ p2 = -1 ∧ fX12_dueBy (fm 8) (fm 10) (fm 11) (fm 9) of p2 = val e)) : ∀ (k e z : Nat) (w0_37 w0_41 : Int32) (z1 z2 z3 z4 z5 z6 z15 : Nat → Int32), e + k = E → k < z → ∃ (a b : Int32) (y1 y2 y3 y4 y5 y6 y7 : Nat → Int32), lfX12_follows mi x1 x2 x3 x4 x5 x6 (fm 4) (fm 7) (fm 2) (fm 5) (fm 6) (fm 3) (fm 0) (fm 1) x7 (fm 8) (fm 10) (fm 11) (fm 9) p1 p2 z (pv val e) (tE (aN vx) (fx 28) (fx 29) e) w0_37 w0_41 (hcF val (tE (aN vx) (fx 28) (fx 29)) e).1 (hcF val (tE (aN vx) (fx 28) (fx 29)) e).2 z1 z2 z3 z4 z5 z6 z15 = (a, b, (hcF val (tE (aN vx) (fx 28) (fx 29)) E).1, (hcF val (tE (aN vx) (fx 28) (fx 29)) E).2, y1, y2, y3, y4, y5, y6, y7) := by
  obtain ⟨_, _, _, k10, _, _, _, _, kN⟩ := rd_of hM h h3
  obtain ⟨_, ⟨_, _, _, _, _, _, _, b8⟩, _⟩ := ad_of hM h h3
  have e9 : (999 : Int32).toInt = 999 := by decide
  intro k
  induction k with
  | zero =>
    intro e z w0_37 w0_41 z1 z2 z3 z4 z5 z6 z15 hi hz
    obtain ⟨z, rfl⟩ : ∃ y, z = y + 1 := ⟨z - 1, by omega⟩
    have e8 : e = E := by omega
    subst e8
    rw [fo_s]
    unfold dfX12_follows_15
    rw [if_pos (i32lt.mpr (by rw [e9]; omega))]
    exact ⟨_, _, _, _, _, _, _, _, _, rfl⟩
  | succ k ih =>
    intro e z w0_37 w0_41 z1 z2 z3 z4 z5 z6 z15 hi hz
    obtain ⟨z, rfl⟩ : ∃ y, z = y + 1 := ⟨z - 1, by omega⟩
    have t1 := ht e (by omega)
    have t2 := tE_pos b8 (fx 28) (fx 29) e (fun e' he => ht e' (by omega))
    rw [fo_s]
    unfold dfX12_follows_15
    rw [if_neg (fun w => by have w := i32lt.mp w; rw [e9] at w; omega)]
    obtain ⟨must, least, pin, ways, ve, row, of, rmn, g1, g2, g3⟩ := qo_of hM h h3 (upd (upd (upd (upd mi 37 w0_37) 41 w0_41) 48 (hcF val (tE (aN vx) (fx 28) (fx 29)) e).1) 49 (hcF val (tE (aN vx) (fx 28) (fx 29)) e).2) (fun k hk => by rw [upd_ne (by omega), upd_ne (by omega), upd_ne (by omega), upd_ne (by omega)]) ⟨rfl, rfl, rfl⟩ z1 z2 z3 z4 z5 z6 z15 (tE (aN vx) (fx 28) (fx 29) e)
    rw [cal_b, g1]
    dsimp only
    have hs : ∀ (c1 c2 : Int32), fX12_nextTime (upd (upd (upd (upd mi 37 0) 41 rmn) 48 c1) 49 c2) (fm 4) (fm 7) (tE (aN vx) (fx 28) (fx 29) e) = tE (aN vx) (fx 28) (fx 29) (e + 1) := by
      intro c1 c2
      rw [tE_n b8]
      have q := nt_L (mi := upd (upd (upd (upd mi 37 0) 41 rmn) 48 c1) 49 c2) (rn := fm 7) (rs := fm 4) (t := tE (aN vx) (fx 28) (fx 29) e) b8 k10 (aN vx) 0 1000000000 1000 (by omega) (by omega)
      rw [nI_0, nwF_cong (rn := fx 28) (rs := fx 29) (aN vx) 0 1000 (fun j hj => kN j (by omega))] at q
      exact q
    have go : ∃ (a b : Int32) (y1 y2 y3 y4 y5 y6 y7 : Nat → Int32), bfX12_follows_48 mi x1 x2 x3 x4 x5 x6 (fm 4) (fm 7) (fm 2) (fm 5) (fm 6) (fm 3) (fm 0) (fm 1) x7 (fm 8) (fm 10) (fm 11) (fm 9) p1 p2 (lfX12_follows mi x1 x2 x3 x4 x5 x6 (fm 4) (fm 7) (fm 2) (fm 5) (fm 6) (fm 3) (fm 0) (fm 1) x7 (fm 8) (fm 10) (fm 11) (fm 9) p1 p2 z) (pv val e) (tE (aN vx) (fx 28) (fx 29) e) (val e) 0 rmn (hcF val (tE (aN vx) (fx 28) (fx 29)) e).1 (hcF val (tE (aN vx) (fx 28) (fx 29)) e).2 must least pin ways ve row of = (a, b, (hcF val (tE (aN vx) (fx 28) (fx 29)) E).1, (hcF val (tE (aN vx) (fx 28) (fx 29)) E).2, y1, y2, y3, y4, y5, y6, y7) := by
      have q := ih (e + 1) z 0 rmn must least pin ways ve row of (by omega) (by omega)
      have e7 : pv val (e + 1) = val e := (if_neg (by omega)).trans (by rw [show e + 1 - 1 = e by omega])
      rw [e7, hcF] at q
      unfold bfX12_follows_48 bfX12_follows_77
      rcases t2 with ⟨t2, t3⟩ | ⟨t2, t3⟩
      · rw [if_pos (Or.inl t2)] at q
        rw [if_pos (i32le.mpr (by rw [t3, z32]; exact Int.le_refl _)), cal_b, hs]
        exact q
      · rw [if_neg (fun w => by have w := i32le.mp w; rw [z32] at w; omega)]
        have e6 : pv val e = val (e - 1) := if_neg (by omega)
        rw [e6]
        by_cases c : val e = val (e - 1)
        · rw [if_pos (Or.inr c)] at q
          rw [if_pos c, cal_b, hs]
          exact q
        · rw [if_neg (fun w => w.elim (by omega) c)] at q
          rw [if_neg c, cal_b, hs]
          exact q
    rcases hv e (by omega) of g3 with ⟨v1, v2⟩ | ⟨v1, v2⟩
    · rw [if_pos v1, v2]
      exact go
    · rw [if_neg v1, cal_b, v2]
      exact go
theorem ht_of {vx : Nat → Int32} {fx : Nat → Nat → Int32} {mi : Nat → Int32} {fm : Nat → Nat → Int32} (hM : MIp mi fm) (h : REL3 vx fx mi fm) (h3 : ¬ mi 3 = 0) {er : Int32} {si be : Nat → Int32} (hh : HT vx fx er si be) : ∃ E : Nat, 1 ≤ E ∧ E ≤ 25 ∧ er = nI E ∧ (∀ e, e < E → (tE (aN vx) (fx 28) (fx 29) e).toInt ≤ 999) ∧ ¬ (tE (aN vx) (fx 28) (fx 29) E).toInt ≤ 999 ∧ (∀ e, e < E → si e = tE (aN vx) (fx 28) (fx 29) e) ∧ ∀ e, e < E → ∀ m, m ≤ aM vx → be (25 * e + m) = nI (aBg vx fx (tE (aN vx) (fx 28) (fx 29) e) m) := by
  obtain ⟨_, ⟨_, _, _, _, _, _, _, b8⟩, _⟩ := ad_of hM h h3
  obtain ⟨E, e1, e2, e3, e4⟩ := hh
  have h9 : ¬ (tE (aN vx) (fx 28) (fx 29) E).toInt ≤ 999 := by
    rcases e4 with e4 | e4
    · intro q
      have q1 := tE_cnt b8 (fx 28) (fx 29) E q
      have q2 := cN_le (fun j => decide ((fx 28 j).toInt ≤ (tE (aN vx) (fx 28) (fx 29) E).toInt)) (aN vx)
      omega
    · exact e4
  refine ⟨E, ?_, e1, e2, fun e he => (e3 e he).1, h9, fun e he => (e3 e he).2.1, fun e he => (e3 e he).2.2⟩
  rcases Nat.eq_zero_or_pos E with q | q
  · subst q
    exact absurd (by rw [tE_0]; omega) h9
  · exact q
def mt12 (mi : Nat → Int32) (fm : Nat → Nat → Int32) (U : Int32 × Int32 × Int32 × Int32 × Int32 × (Nat → Int32) × (Nat → Int32) × (Nat → Int32) × (Nat → Int32) × (Nat → Int32) × (Nat → Int32) × (Nat → Int32)) : Int32 × (Nat → Int32) × (Nat → Nat → Int32) := (U.1, (upd (upd (upd (upd mi 37 U.2.1) 41 U.2.2.1) 48 U.2.2.2.1) 49 U.2.2.2.2.1), (updF (updF (updF (updF (updF (updF (updF fm 14 U.2.2.2.2.2.1) 15 U.2.2.2.2.2.2.1) 16 U.2.2.2.2.2.2.2.1) 17 U.2.2.2.2.2.2.2.2.1) 18 U.2.2.2.2.2.2.2.2.2.1) 19 U.2.2.2.2.2.2.2.2.2.2.1) 20 U.2.2.2.2.2.2.2.2.2.2.2))
theorem k12_of {mi : Nat → Int32} {fm : Nat → Nat → Int32} {r2 : Int32} {mi2 : Nat → Int32} {fm2 : Nat → Nat → Int32} {U : Int32 × Int32 × Int32 × Int32 × Int32 × (Nat → Int32) × (Nat → Int32) × (Nat → Int32) × (Nat → Int32) × (Nat → Int32) × (Nat → Int32) × (Nat → Int32)} (hm : (r2, mi2, fm2) = mt12 mi fm U) : KPT mi fm mi2 fm2 ∧ r2 = U.1 := by
  unfold mt12 at hm
  simp only [Prod.mk.injEq] at hm
  obtain ⟨rfl, rfl, rfl⟩ := hm
  exact ⟨⟨fun k hk => by repeat rw [upd_ne (by omega)], ⟨rfl, rfl, rfl⟩, ⟨rfl, rfl⟩, fun k hk => by repeat rw [updF_ne (by omega)]⟩, rfl⟩
theorem r3_shifts {vx : Nat → Int32} {fx : Nat → Nat → Int32} {gx : Nat → Nat → Int64} {mi : Nat → Int32} {fm : Nat → Nat → Int32} (hM : MIp mi fm) (h : REL3 vx fx mi fm) {r r2 : Int32} {v : Nat → Int32} {f : Nat → Nat → Int32} {g : Nat → Nat → Int64} {mi2 : Nat → Int32} {fm2 : Nat → Nat → Int32} {p1 : Int32} (hx : (r, v, f, g) = xs_shifts vx fx gx p1) (hm : (r2, mi2, fm2) = ms_shifts mi fm p1) : REL3 v f mi2 fm2 ∧ r = r2 := by
  obtain ⟨O, hO⟩ : ∃ O, O = fX11_shifts (vx 4) (vx 60) (fx 18) (fx 19) (vx 49) (vx 50) (fx 8) (fx 9) (gx 1) (fx 10) (vx 51) (vx 52) (vx 53) (fx 11) (fx 12) (vx 11) (vx 12) (vx 13) (vx 15) (vx 16) (vx 17) (vx 19) (fx 22) (fx 23) (fx 24) (fx 25) (fx 26) (fx 27) (fx 28) (fx 29) p1 := ⟨_, rfl⟩
  obtain ⟨U, hU⟩ : ∃ U, U = fX12_shifts mi (fm 14) (fm 15) (fm 16) (fm 17) (fm 18) (fm 19) (fm 4) (fm 7) (fm 2) (fm 5) (fm 6) (fm 3) (fm 0) (fm 1) (fm 20) (fm 8) (fm 10) (fm 11) (fm 9) p1 := ⟨_, rfl⟩
  have hx : (r, v, f, g) = xt16 vx fx gx O := by
    rw [hx, hO]
    rfl
  have hm : (r2, mi2, fm2) = mt12 mi fm U := by
    rw [hm, hU]
    rfl
  obtain ⟨k1, k2⟩ := k12_of hm
  have hfin : ∀ s : Int32, O.1 = s → U.1 = s → oZ O.2.2.2.2.2.2.2.2.2.2.2.2.2.2.2 → (O.2.1 = 0 ∨ HT vx fx O.2.2.1 O.2.2.2.2.2.2.2.2.1 O.2.2.2.2.2.2.2.2.2.1) → REL3 v f mi2 fm2 ∧ r = r2 := by
    intro s s1 s2 a b
    obtain ⟨w1, w2⟩ := e16 h hx a b k1
    exact ⟨w1, w2.trans (s1.trans (s2.symm.trans k2.symm))⟩
  unfold fX11_shifts at hO
  unfold fX12_shifts bfX12_shifts_15 at hU
  obtain ⟨o1, e1, hO⟩ := cal_out hO
  by_cases n3 : mi 3 = 0
  · rw [if_pos n3] at hU
    have c1 : o1 = 0 := by
      by_cases c : o1 = 0
      · exact c
      · exact absurd n3 (nm_of h (p := p1) (e1 ▸ c))
    rw [if_pos c1] at hO
    refine hfin (-2) (by rw [hO]) (by rw [hU]) ?_ ?_
    · rw [hO]
      exact h.2.2.2.1.2
    · rw [hO]
      exact h.2.2.2.2.2.2
  rw [if_neg n3] at hU
  obtain ⟨u1, f1, hU⟩ := cal_out hU
  obtain ⟨a1, c1⟩ := bg_of h n3 p1
  rw [a1, ← f1] at e1
  rw [← f1] at c1
  rcases c1 with c1 | ⟨c1, b1, b2⟩
  · rw [if_pos (e1.trans c1)] at hO
    rw [if_pos c1] at hU
    refine hfin (-2) (by rw [hO]) (by rw [hU]) ?_ ?_
    · rw [hO]
      exact h.2.2.2.1.2
    · rw [hO]
      exact h.2.2.2.2.2.2
  rw [if_neg (by rw [e1, c1]; decide)] at hO
  rw [if_neg (by rw [c1]; decide)] at hU
  obtain ⟨hs, er, ql, tb, a, b, c, si, be, ve, qu, tu, bg, al, on, g1, g2, g3⟩ := hn_of (gx := gx) hM h n3
  obtain ⟨o2, e2, hO⟩ := cal_out hO
  rw [g1] at e2
  subst e2
  obtain ⟨E, E1, E2, E3, E4, E5, E6, E7⟩ := ht_of hM h n3 g3
  obtain ⟨_, ⟨_, d2, _⟩, _⟩ := ad_of hM h n3
  obtain ⟨u2, f2, hU⟩ := cal_out hU
  obtain ⟨o3, e3, hO⟩ := cal_out hO
  have s0 : ∀ e, e < E → ∀ of : Nat → Int32, (∀ j, j ≤ aM vx → of j = nI (aBg vx fx (tE (aN vx) (fx 28) (fx 29) e) j)) → ((-1 : Int32) = -1 ∧ of (p1).toNatClampNeg = (fun e => nI (aBg vx fx (tE (aN vx) (fx 28) (fx 29) e) p1.toNatClampNeg)) e) ∨ (¬ (-1 : Int32) = -1 ∧ fX12_dueBy (fm 8) (fm 10) (fm 11) (fm 9) of (-1 : Int32) = (fun e => nI (aBg vx fx (tE (aN vx) (fx 28) (fx 29) e) p1.toNatClampNeg)) e) := by
    intro e he of hof
    exact Or.inl ⟨rfl, hof _ b1⟩
  obtain ⟨a9, b9, y91, y92, y93, y94, y95, y96, y97, hf⟩ := fo_L (x1 := fm 14) (x2 := fm 15) (x3 := fm 16) (x4 := fm 17) (x5 := fm 18) (x6 := fm 19) (x7 := fm 20) (p1 := p1) (p2 := (-1 : Int32)) (val := (fun e => nI (aBg vx fx (tE (aN vx) (fx 28) (fx 29) e) p1.toNatClampNeg))) hM h n3 E2 E4 E5 s0 E 0 1000000000 (mi 37) (mi 41) (fm 14) (fm 15) (fm 16) (fm 17) (fm 18) (fm 19) (fm 20) (by omega) (by omega)
  have f2 : u2 = (a9, b9, (hcF (fun e => nI (aBg vx fx (tE (aN vx) (fx 28) (fx 29) e) p1.toNatClampNeg)) (tE (aN vx) (fx 28) (fx 29)) E).1, (hcF (fun e => nI (aBg vx fx (tE (aN vx) (fx 28) (fx 29) e) p1.toNatClampNeg)) (tE (aN vx) (fx 28) (fx 29)) E).2, y91, y92, y93, y94, y95, y96, y97) := f2.trans hf
  subst f2
  have hq : o3 = (hcF (fun e => nI (aBg vx fx (tE (aN vx) (fx 28) (fx 29) e) p1.toNatClampNeg)) (tE (aN vx) (fx 28) (fx 29)) E).1 := by
    rw [e3, E3, b2, nI_clamp (by omega)]
    exact co_L (be := be) (val := (fun e => nI (aBg vx fx (tE (aN vx) (fx 28) (fx 29) e) p1.toNatClampNeg))) (tt := tE (aN vx) (fx 28) (fx 29)) E2 (show p1.toNatClampNeg ≤ 24 by omega) (fun e he => E7 e he _ b1) (E - 1) 1 1000000000 (by omega) (by omega) (by omega)
  refine hfin o3 (by rw [hO]) (by rw [hU, hq]) ?_ (Or.inr ?_)
  · rw [hO]
    exact g2
  · rw [hO]
    exact g3
theorem r3_settled {vx : Nat → Int32} {fx : Nat → Nat → Int32} {gx : Nat → Nat → Int64} {mi : Nat → Int32} {fm : Nat → Nat → Int32} (hM : MIp mi fm) (h : REL3 vx fx mi fm) {r r2 : Int32} {v : Nat → Int32} {f : Nat → Nat → Int32} {g : Nat → Nat → Int64} {mi2 : Nat → Int32} {fm2 : Nat → Nat → Int32} {p1 : Int32} (hx : (r, v, f, g) = xs_settled vx fx gx p1) (hm : (r2, mi2, fm2) = ms_settled mi fm p1) : REL3 v f mi2 fm2 ∧ r = r2 := by
  obtain ⟨O, hO⟩ : ∃ O, O = fX11_settled (vx 4) (vx 60) (fx 18) (fx 19) (vx 49) (vx 50) (fx 8) (fx 9) (gx 1) (fx 10) (vx 51) (vx 52) (vx 53) (fx 11) (fx 12) (vx 11) (vx 12) (vx 13) (vx 15) (vx 16) (vx 17) (vx 19) (fx 22) (fx 23) (fx 24) (fx 25) (fx 26) (fx 27) (fx 28) (fx 29) p1 := ⟨_, rfl⟩
  obtain ⟨U, hU⟩ : ∃ U, U = fX12_settled mi (fm 14) (fm 15) (fm 16) (fm 17) (fm 18) (fm 19) (fm 4) (fm 7) (fm 2) (fm 5) (fm 6) (fm 3) (fm 0) (fm 1) (fm 20) (fm 8) (fm 10) (fm 11) (fm 9) p1 := ⟨_, rfl⟩
  have hx : (r, v, f, g) = xt16 vx fx gx O := by
    rw [hx, hO]
    rfl
  have hm : (r2, mi2, fm2) = mt12 mi fm U := by
    rw [hm, hU]
    rfl
  obtain ⟨k1, k2⟩ := k12_of hm
  have hfin : ∀ s : Int32, O.1 = s → U.1 = s → oZ O.2.2.2.2.2.2.2.2.2.2.2.2.2.2.2 → (O.2.1 = 0 ∨ HT vx fx O.2.2.1 O.2.2.2.2.2.2.2.2.1 O.2.2.2.2.2.2.2.2.2.1) → REL3 v f mi2 fm2 ∧ r = r2 := by
    intro s s1 s2 a b
    obtain ⟨w1, w2⟩ := e16 h hx a b k1
    exact ⟨w1, w2.trans (s1.trans (s2.symm.trans k2.symm))⟩
  unfold fX11_settled at hO
  unfold fX12_settled bfX12_settled_15 at hU
  obtain ⟨o1, e1, hO⟩ := cal_out hO
  by_cases n3 : mi 3 = 0
  · rw [if_pos n3] at hU
    have c1 : o1 = 0 := by
      by_cases c : o1 = 0
      · exact c
      · exact absurd n3 (nm_of h (p := p1) (e1 ▸ c))
    rw [if_pos c1] at hO
    refine hfin (-2) (by rw [hO]) (by rw [hU]) ?_ ?_
    · rw [hO]
      exact h.2.2.2.1.2
    · rw [hO]
      exact h.2.2.2.2.2.2
  rw [if_neg n3] at hU
  obtain ⟨u1, f1, hU⟩ := cal_out hU
  obtain ⟨a1, c1⟩ := bg_of h n3 p1
  rw [a1, ← f1] at e1
  rw [← f1] at c1
  rcases c1 with c1 | ⟨c1, b1, b2⟩
  · rw [if_pos (e1.trans c1)] at hO
    rw [if_pos c1] at hU
    refine hfin (-2) (by rw [hO]) (by rw [hU]) ?_ ?_
    · rw [hO]
      exact h.2.2.2.1.2
    · rw [hO]
      exact h.2.2.2.2.2.2
  rw [if_neg (by rw [e1, c1]; decide)] at hO
  rw [if_neg (by rw [c1]; decide)] at hU
  obtain ⟨hs, er, ql, tb, a, b, c, si, be, ve, qu, tu, bg, al, on, g1, g2, g3⟩ := hn_of (gx := gx) hM h n3
  obtain ⟨o2, e2, hO⟩ := cal_out hO
  rw [g1] at e2
  subst e2
  obtain ⟨E, E1, E2, E3, E4, E5, E6, E7⟩ := ht_of hM h n3 g3
  obtain ⟨_, ⟨_, d2, _⟩, _⟩ := ad_of hM h n3
  obtain ⟨u2, f2, hU⟩ := cal_out hU
  obtain ⟨o3, e3, hO⟩ := cal_out hO
  have s0 : ∀ e, e < E → ∀ of : Nat → Int32, (∀ j, j ≤ aM vx → of j = nI (aBg vx fx (tE (aN vx) (fx 28) (fx 29) e) j)) → ((-1 : Int32) = -1 ∧ of (p1).toNatClampNeg = (fun e => nI (aBg vx fx (tE (aN vx) (fx 28) (fx 29) e) p1.toNatClampNeg)) e) ∨ (¬ (-1 : Int32) = -1 ∧ fX12_dueBy (fm 8) (fm 10) (fm 11) (fm 9) of (-1 : Int32) = (fun e => nI (aBg vx fx (tE (aN vx) (fx 28) (fx 29) e) p1.toNatClampNeg)) e) := by
    intro e he of hof
    exact Or.inl ⟨rfl, hof _ b1⟩
  obtain ⟨a9, b9, y91, y92, y93, y94, y95, y96, y97, hf⟩ := fo_L (x1 := fm 14) (x2 := fm 15) (x3 := fm 16) (x4 := fm 17) (x5 := fm 18) (x6 := fm 19) (x7 := fm 20) (p1 := p1) (p2 := (-1 : Int32)) (val := (fun e => nI (aBg vx fx (tE (aN vx) (fx 28) (fx 29) e) p1.toNatClampNeg))) hM h n3 E2 E4 E5 s0 E 0 1000000000 (mi 37) (mi 41) (fm 14) (fm 15) (fm 16) (fm 17) (fm 18) (fm 19) (fm 20) (by omega) (by omega)
  have f2 : u2 = (a9, b9, (hcF (fun e => nI (aBg vx fx (tE (aN vx) (fx 28) (fx 29) e) p1.toNatClampNeg)) (tE (aN vx) (fx 28) (fx 29)) E).1, (hcF (fun e => nI (aBg vx fx (tE (aN vx) (fx 28) (fx 29) e) p1.toNatClampNeg)) (tE (aN vx) (fx 28) (fx 29)) E).2, y91, y92, y93, y94, y95, y96, y97) := f2.trans hf
  subst f2
  have hq : o3 = (hcF (fun e => nI (aBg vx fx (tE (aN vx) (fx 28) (fx 29) e) p1.toNatClampNeg)) (tE (aN vx) (fx 28) (fx 29)) E).2 := by
    obtain ⟨d, rfl⟩ : ∃ d, E = d + 1 := ⟨E - 1, by omega⟩
    rw [e3, E3, b2, nI_clamp (by omega)]
    unfold fX4_lastChangeOf
    rw [nI_pred]
    exact lc_L (si := si) (be := be) (val := (fun e => nI (aBg vx fx (tE (aN vx) (fx 28) (fx 29) e) p1.toNatClampNeg))) (tt := tE (aN vx) (fx 28) (fx 29)) E2 (show p1.toNatClampNeg ≤ 24 by omega) (fun e he => E7 e he _ b1) E6 d 1000000000 (by omega) (by omega)
  refine hfin o3 (by rw [hO]) (by rw [hU, hq]) ?_ (Or.inr ?_)
  · rw [hO]
    exact g2
  · rw [hO]
    exact g3
theorem r3_redated {vx : Nat → Int32} {fx : Nat → Nat → Int32} {gx : Nat → Nat → Int64} {mi : Nat → Int32} {fm : Nat → Nat → Int32} (hM : MIp mi fm) (h : REL3 vx fx mi fm) {r r2 : Int32} {v : Nat → Int32} {f : Nat → Nat → Int32} {g : Nat → Nat → Int64} {mi2 : Nat → Int32} {fm2 : Nat → Nat → Int32} {p1 : Int32} (hx : (r, v, f, g) = xs_redated vx fx gx p1) (hm : (r2, mi2, fm2) = ms_redated mi fm p1) : REL3 v f mi2 fm2 ∧ r = r2 := by
  obtain ⟨O, hO⟩ : ∃ O, O = fX11_redated (vx 4) (vx 60) (fx 18) (fx 19) (vx 49) (vx 50) (fx 8) (fx 9) (gx 1) (fx 10) (vx 51) (vx 52) (vx 53) (fx 11) (fx 12) (vx 11) (vx 12) (vx 13) (vx 15) (vx 16) (vx 17) (vx 19) (vx 20) (fx 22) (fx 23) (fx 24) (fx 25) (fx 26) (fx 27) (fx 28) (fx 29) (fx 30) (fx 31) (fx 32) (fx 33) p1 := ⟨_, rfl⟩
  obtain ⟨U, hU⟩ : ∃ U, U = fX12_redated mi (fm 14) (fm 15) (fm 16) (fm 17) (fm 18) (fm 19) (fm 4) (fm 7) (fm 2) (fm 5) (fm 6) (fm 3) (fm 0) (fm 1) (fm 20) (fm 8) (fm 10) (fm 11) (fm 9) p1 := ⟨_, rfl⟩
  have hx : (r, v, f, g) = xt16 vx fx gx O := by
    rw [hx, hO]
    rfl
  have hm : (r2, mi2, fm2) = mt12 mi fm U := by
    rw [hm, hU]
    rfl
  obtain ⟨k1, k2⟩ := k12_of hm
  have hfin : ∀ s : Int32, O.1 = s → U.1 = s → oZ O.2.2.2.2.2.2.2.2.2.2.2.2.2.2.2 → (O.2.1 = 0 ∨ HT vx fx O.2.2.1 O.2.2.2.2.2.2.2.2.1 O.2.2.2.2.2.2.2.2.2.1) → REL3 v f mi2 fm2 ∧ r = r2 := by
    intro s s1 s2 a b
    obtain ⟨w1, w2⟩ := e16 h hx a b k1
    exact ⟨w1, w2.trans (s1.trans (s2.symm.trans k2.symm))⟩
  unfold fX11_redated bfX11_redated_32 at hO
  unfold fX12_redated at hU
  obtain ⟨o1, e1, hO⟩ := cal_out hO
  obtain ⟨u1, f1, hU⟩ := cal_out hU
  obtain ⟨a1, c1⟩ := dd_of h p1
  rw [a1, ← f1] at e1
  rw [← f1] at c1
  rcases c1 with c1 | ⟨c1, z4, z9, ⟨g8, g9, g10, g11⟩, da, dd, dl, y1, y2, y3, y4, y5, y6, y7⟩
  · rw [if_pos (e1.trans c1)] at hO
    rw [if_pos c1] at hU
    refine hfin (-2) (by rw [hO]) (by rw [hU]) ?_ ?_
    · rw [hO]
      exact h.2.2.2.1.2
    · rw [hO]
      exact h.2.2.2.2.2.2
  rw [if_neg (by rw [e1, c1]; decide)] at hO
  rw [if_neg (by rw [c1]; decide)] at hU
  have n3 : ¬ mi 3 = 0 := nd_of h (p := p1) (by rw [a1, ← f1, c1]; decide)
  obtain ⟨hs, er, ql, tb, a, b, c, si, be, ve, qu, tu, bg, al, on, g1, g2, g3⟩ := hn_of (gx := gx) hM h n3
  obtain ⟨o2, e2, hO⟩ := cal_out hO
  rw [g1] at e2
  subst e2
  obtain ⟨E, E1, E2, E3, E4, E5, E6, E7⟩ := ht_of hM h n3 g3
  obtain ⟨_, ⟨_, d2, _⟩, _⟩ := ad_of hM h n3
  obtain ⟨u2, f2, hU⟩ := cal_out hU
  obtain ⟨o3, e3, hO⟩ := cal_out hO
  obtain ⟨o4, e4, hO⟩ := cal_out hO
  obtain ⟨A, hA, hA2⟩ : ∃ A : Nat, o3 = nI A ∧ A ≤ aM vx := by
    rw [e3]
    unfold fX2_endAnchor bfX2_endAnchor_23 fX11_anchorOf bfX11_anchorOf_13
    rw [y1, y2, y3, cal_b, cal_b]
    rcases y7 with ⟨q, q2⟩ | ⟨q, q2⟩
    · rw [if_pos q, nI_add, nI_1]
      split
      · exact ⟨_, rfl, by omega⟩
      · exact ⟨_, rfl, by omega⟩
    · rw [if_neg (by rw [q]; decide), nI_1]
      split
      · exact ⟨_, rfl, by omega⟩
      · exact ⟨_, rfl, by omega⟩
  have s0 : ∀ e, e < E → ∀ of : Nat → Int32, (∀ j, j ≤ aM vx → of j = nI (aBg vx fx (tE (aN vx) (fx 28) (fx 29) e) j)) → (p1 = -1 ∧ of ((0 : Int32)).toNatClampNeg = (fun e => nI (aBg vx fx (tE (aN vx) (fx 28) (fx 29) e) A) + fX2_endOffset (fx 31 p1.toNatClampNeg) (fx 32 p1.toNatClampNeg) (fx 33 p1.toNatClampNeg)) e) ∨ (¬ p1 = -1 ∧ fX12_dueBy (fm 8) (fm 10) (fm 11) (fm 9) of p1 = (fun e => nI (aBg vx fx (tE (aN vx) (fx 28) (fx 29) e) A) + fX2_endOffset (fx 31 p1.toNatClampNeg) (fx 32 p1.toNatClampNeg) (fx 33 p1.toNatClampNeg)) e) := by
    intro e he of hof
    refine Or.inr ⟨by rw [z4]; exact nIm1 (by omega), ?_⟩
    obtain ⟨w1, w2⟩ := bg_facts hM h n3 (tE (aN vx) (fx 28) (fx 29) e)
    have hd := du_eq (of := of) (bg := fun j => nI (aBg vx fx (tE (aN vx) (fx 28) (fx 29) e) j)) (x0 := fx 30) (x1 := fx 31) (x2 := fx 32) (x3 := fx 33) (y0 := fm 8) (y1 := fm 9) (y2 := fm 10) (y3 := fm 11) (b := aBg vx fx (tE (aN vx) (fx 28) (fx 29) e)) (M := aM vx) (p := p1.toNatClampNeg) d2 hof (fun _ _ => rfl) w2 (fun m hm => by have := w1 m hm; omega) z9 g8 g9 g10 g11 y1 y2 y3 y4 y5 y6 y7
    rw [← z4, ← e3, hA, nI_clamp (by omega)] at hd
    exact hd
  obtain ⟨a9, b9, y91, y92, y93, y94, y95, y96, y97, hf⟩ := fo_L (x1 := fm 14) (x2 := fm 15) (x3 := fm 16) (x4 := fm 17) (x5 := fm 18) (x6 := fm 19) (x7 := fm 20) (p1 := (0 : Int32)) (p2 := p1) (val := (fun e => nI (aBg vx fx (tE (aN vx) (fx 28) (fx 29) e) A) + fX2_endOffset (fx 31 p1.toNatClampNeg) (fx 32 p1.toNatClampNeg) (fx 33 p1.toNatClampNeg))) hM h n3 E2 E4 E5 s0 E 0 1000000000 (mi 37) (mi 41) (fm 14) (fm 15) (fm 16) (fm 17) (fm 18) (fm 19) (fm 20) (by omega) (by omega)
  have f2 : u2 = (a9, b9, (hcF (fun e => nI (aBg vx fx (tE (aN vx) (fx 28) (fx 29) e) A) + fX2_endOffset (fx 31 p1.toNatClampNeg) (fx 32 p1.toNatClampNeg) (fx 33 p1.toNatClampNeg)) (tE (aN vx) (fx 28) (fx 29)) E).1, (hcF (fun e => nI (aBg vx fx (tE (aN vx) (fx 28) (fx 29) e) A) + fX2_endOffset (fx 31 p1.toNatClampNeg) (fx 32 p1.toNatClampNeg) (fx 33 p1.toNatClampNeg)) (tE (aN vx) (fx 28) (fx 29)) E).2, y91, y92, y93, y94, y95, y96, y97) := f2.trans hf
  subst f2
  have hcc : hcF (fun e => nI (aBg vx fx (tE (aN vx) (fx 28) (fx 29) e) A) + fX2_endOffset (fx 31 p1.toNatClampNeg) (fx 32 p1.toNatClampNeg) (fx 33 p1.toNatClampNeg)) (tE (aN vx) (fx 28) (fx 29)) E = hcF (fun e => nI (aBg vx fx (tE (aN vx) (fx 28) (fx 29) e) A)) (tE (aN vx) (fx 28) (fx 29)) E := hcF_cong E (fun i _ _ => ⟨fun q => (Int32.add_left_inj _).1 q, fun q => congrArg (· + fX2_endOffset (fx 31 p1.toNatClampNeg) (fx 32 p1.toNatClampNeg) (fx 33 p1.toNatClampNeg)) q⟩)
  have hq : o4 = (hcF (fun e => nI (aBg vx fx (tE (aN vx) (fx 28) (fx 29) e) A) + fX2_endOffset (fx 31 p1.toNatClampNeg) (fx 32 p1.toNatClampNeg) (fx 33 p1.toNatClampNeg)) (tE (aN vx) (fx 28) (fx 29)) E).1 := by
    rw [e4, hA, E3, hcc]
    exact co_L (be := be) (val := (fun e => nI (aBg vx fx (tE (aN vx) (fx 28) (fx 29) e) A))) (tt := tE (aN vx) (fx 28) (fx 29)) E2 (show A ≤ 24 by omega) (fun e he => E7 e he A hA2) (E - 1) 1 1000000000 (by omega) (by omega) (by omega)
  refine hfin o4 (by rw [hO]) (by rw [hU, hq]) ?_ (Or.inr ?_)
  · rw [hO]
    exact g2
  · rw [hO]
    exact g3
def sm (f : Nat → Nat) : Nat → Nat
  | 0 => 0
  | n + 1 => sm f n + f n
theorem sm_cong {f g : Nat → Nat} : ∀ n : Nat, (∀ i, i < n → f i = g i) → sm f n = sm g n := by
  intro n
  induction n with
  | zero => intro _; rfl
  | succ n ih =>
    intro h
    rw [sm, sm, ih (fun i hi => h i (by omega)), h n (by omega)]
theorem sm_0 {f : Nat → Nat} (n : Nat) (h : ∀ i, i < n → f i = 0) : sm f n = 0 := by
  induction n with
  | zero => rfl
  | succ n ih => rw [sm, ih (fun i hi => h i (by omega)), h n (by omega)]
theorem sm_add (f g : Nat → Nat) : ∀ n : Nat, sm (fun i => f i + g i) n = sm f n + sm g n := by
  intro n
  induction n with
  | zero => rfl
  | succ n ih =>
    rw [sm, sm, sm, ih]
    omega
theorem sm_mul (k : Nat) (f : Nat → Nat) : ∀ n : Nat, sm (fun i => k * f i) n = k * sm f n := by
  intro n
  induction n with
  | zero => rfl
  | succ n ih => rw [sm, sm, ih, Nat.mul_add]
theorem sm_mulr (k : Nat) (f : Nat → Nat) (n : Nat) : sm (fun i => f i * k) n = sm f n * k := by
  rw [Nat.mul_comm, ← sm_mul]
  exact sm_cong n (fun i _ => Nat.mul_comm _ _)
theorem sm_swap (f : Nat → Nat → Nat) (m : Nat) : ∀ n : Nat, sm (fun i => sm (fun j => f i j) m) n = sm (fun j => sm (fun i => f i j) n) m := by
  intro n
  induction n with
  | zero =>
    rw [sm]
    exact (sm_0 m (fun _ _ => rfl)).symm
  | succ n ih =>
    rw [sm, ih, ← sm_add]
    exact sm_cong m (fun j _ => by rw [sm])
theorem sm_le {f : Nat → Nat} : ∀ (n i : Nat), i < n → f i ≤ sm f n := by
  intro n
  induction n with
  | zero => intro i hi; omega
  | succ n ih =>
    intro i hi
    rw [sm]
    by_cases c : i = n
    · subst c
      omega
    · have := ih i (by omega)
      omega
theorem sm_mono {f g : Nat → Nat} : ∀ n : Nat, (∀ i, i < n → f i ≤ g i) → sm f n ≤ sm g n := by
  intro n
  induction n with
  | zero => intro _; exact Nat.le_refl _
  | succ n ih =>
    intro h
    rw [sm, sm]
    have h1 := ih (fun i hi => h i (by omega))
    have h2 := h n (by omega)
    omega
theorem sm_one {f : Nat → Nat} {k : Nat} : ∀ n : Nat, (∀ i, i < n → ¬ i = k → f i = 0) → sm f n = if k < n then f k else 0 := by
  intro n
  induction n with
  | zero => intro _; rfl
  | succ n ih =>
    intro h
    rw [sm, ih (fun i hi hk => h i (by omega) hk)]
    by_cases c : n = k
    · subst c
      rw [if_neg (by omega), if_pos (by omega)]
      omega
    · rw [h n (by omega) c]
      by_cases c2 : k < n
      · rw [if_pos c2, if_pos (by omega)]
        rfl
      · rw [if_neg c2, if_neg (by omega)]
theorem sm_shift (g : Nat → Nat) : ∀ n : Nat, sm (fun a => if a = 0 then 0 else g (a - 1)) (n + 1) = sm g n := by
  intro n
  induction n with
  | zero => rfl
  | succ n ih =>
    rw [sm, ih, if_neg (by omega), sm]
    rfl
theorem sm_pos {f : Nat → Nat} : ∀ n : Nat, 0 < sm f n → ∃ i, i < n ∧ 0 < f i := by
  intro n
  induction n with
  | zero => intro h; exact absurd h (Nat.lt_irrefl 0)
  | succ n ih =>
    intro h
    rw [sm] at h
    by_cases c : 0 < f n
    · exact ⟨n, by omega, c⟩
    · obtain ⟨i, hi, h2⟩ := ih (by omega)
      exact ⟨i, by omega, h2⟩
def fu (F L : Nat) (b : Nat → Nat) (c : Nat) : Nat := if c = 0 then 0 else sm (fun c' => if cf F c' = c then b c' else 0) (F + L + 1)
def lu (F L : Nat) (b : Nat → Nat) (c : Nat) : Nat := if c = 0 then 0 else sm (fun c' => if cl F L c' = c then b c' else 0) (F + L + 1)
def bf (F L : Nat) (ok : Nat → Nat → Bool) : Nat → Nat → Nat → Nat
  | 0, a, c => if a = 0 ∧ c = 0 then 1 else 0
  | m + 1, a, c => if ok (m + 1) a = true then (if a = 0 then 0 else fu F L (bf F L ok m (a - 1)) c) + (if a ≤ m then lu F L (bf F L ok m a) c else 0) else 0
def nx (F L : Nat) (V : Nat → Nat) (k : Nat) : Nat := if k = 0 then 0 else V k
theorem tu_sum {N : Nat} (s : Nat → Nat) (b V : Nat → Nat) (hs : ∀ c, c < N → s c < N) : sm (fun c => (if c = 0 then 0 else sm (fun c' => if s c' = c then b c' else 0) N) * V c) N = sm (fun c' => b c' * (if s c' = 0 then 0 else V (s c'))) N := by
  have e1 : sm (fun c => (if c = 0 then 0 else sm (fun c' => if s c' = c then b c' else 0) N) * V c) N = sm (fun c => sm (fun c' => if c = 0 then 0 else if s c' = c then b c' * V c else 0) N) N := by
    refine sm_cong N (fun c _ => ?_)
    by_cases h : c = 0
    · rw [if_pos h, Nat.zero_mul]
      exact (sm_0 N (fun _ _ => if_pos h)).symm
    · rw [if_neg h, ← sm_mulr]
      refine sm_cong N (fun c' _ => ?_)
      rw [if_neg h]
      by_cases h2 : s c' = c
      · rw [if_pos h2, if_pos h2]
      · rw [if_neg h2, if_neg h2, Nat.zero_mul]
  rw [e1, sm_swap (fun c c' => if c = 0 then 0 else if s c' = c then b c' * V c else 0)]
  refine sm_cong N (fun c' hc => ?_)
  rw [sm_one (k := s c') N (fun c _ h => by
    by_cases h1 : c = 0
    · rw [if_pos h1]
    · rw [if_neg h1, if_neg (fun q => h q.symm)]), if_pos (hs c' hc)]
  by_cases h : s c' = 0
  · rw [if_pos h, if_pos h, Nat.mul_zero]
  · rw [if_neg h, if_pos rfl, if_neg h]
def wS (F L : Nat) (ok : Nat → Nat → Bool) (m : Nat) (W : Nat → Nat → Nat) : Nat := sm (fun a => sm (fun c => bf F L ok m a c * W a c) (F + L + 1)) (m + 1)
def adj (F L : Nat) (ok : Nat → Nat → Bool) (m : Nat) (W : Nat → Nat → Nat) (a c : Nat) : Nat := (if ok (m + 1) (a + 1) = true then (if cf F c = 0 then 0 else W (a + 1) (cf F c)) else 0) + (if ok (m + 1) a = true then (if cl F L c = 0 then 0 else W a (cl F L c)) else 0)
theorem wS_step {F L : Nat} (hF1 : 1 ≤ F) (hL1 : 1 ≤ L) (hF : F ≤ 5) (hL : L ≤ 5) (ok : Nat → Nat → Bool) (m : Nat) (W : Nat → Nat → Nat) : wS F L ok (m + 1) W = wS F L ok m (adj F L ok m W) := by
  have hcf : ∀ c, c < F + L + 1 → cf F c < F + L + 1 := fun c hc => by have := (cf_jn hF1 hL1 hF hL (show c ≤ F + L by omega)).2.2.1; omega
  have hcl : ∀ c, c < F + L + 1 → cl F L c < F + L + 1 := fun c hc => by have := (cf_jn hF1 hL1 hF hL (show c ≤ F + L by omega)).2.2.2; omega
  have e1 : ∀ a, sm (fun c => bf F L ok (m + 1) a c * W a c) (F + L + 1) = (if a = 0 then 0 else (if ok (m + 1) (a - 1 + 1) = true then sm (fun c' => bf F L ok m (a - 1) c' * (if cf F c' = 0 then 0 else W (a - 1 + 1) (cf F c'))) (F + L + 1) else 0)) + (if a ≤ m then (if ok (m + 1) a = true then sm (fun c' => bf F L ok m a c' * (if cl F L c' = 0 then 0 else W a (cl F L c'))) (F + L + 1) else 0) else 0) := by
    intro a
    by_cases h : ok (m + 1) a = true
    · have e2 : sm (fun c => bf F L ok (m + 1) a c * W a c) (F + L + 1) = sm (fun c => (if a = 0 then 0 else fu F L (bf F L ok m (a - 1)) c * W a c) + (if a ≤ m then lu F L (bf F L ok m a) c * W a c else 0)) (F + L + 1) := by
        refine sm_cong _ (fun c _ => ?_)
        rw [bf, if_pos h, Nat.add_mul]
        congr 1
        · by_cases h1 : a = 0
          · rw [if_pos h1, if_pos h1, Nat.zero_mul]
          · rw [if_neg h1, if_neg h1]
        · by_cases h1 : a ≤ m
          · rw [if_pos h1, if_pos h1]
          · rw [if_neg h1, if_neg h1, Nat.zero_mul]
      rw [e2, sm_add]
      congr 1
      · by_cases h1 : a = 0
        · rw [if_pos h1]
          exact sm_0 _ (fun c _ => if_pos h1)
        · rw [if_neg h1, show a - 1 + 1 = a by omega, if_pos h, ← tu_sum (cf F) (bf F L ok m (a - 1)) (W a) hcf]
          refine sm_cong _ (fun c _ => ?_)
          rw [if_neg h1]
          rfl
      · by_cases h1 : a ≤ m
        · rw [if_pos h1, if_pos h, ← tu_sum (cl F L) (bf F L ok m a) (W a) hcl]
          refine sm_cong _ (fun c _ => ?_)
          rw [if_pos h1]
          rfl
        · rw [if_neg h1]
          exact sm_0 _ (fun c _ => if_neg h1)
    · rw [sm_0 _ (fun c _ => by rw [bf, if_neg h, Nat.zero_mul])]
      rw [show (if a = 0 then 0 else (if ok (m + 1) (a - 1 + 1) = true then sm (fun c' => bf F L ok m (a - 1) c' * (if cf F c' = 0 then 0 else W (a - 1 + 1) (cf F c'))) (F + L + 1) else 0)) = 0 from by
        by_cases h1 : a = 0
        · rw [if_pos h1]
        · rw [if_neg h1, show a - 1 + 1 = a by omega, if_neg h]]
      rw [if_neg h, ite_self]
  unfold wS
  rw [sm_cong (m + 1 + 1) (fun a _ => e1 a), sm_add, sm_shift (fun a => if ok (m + 1) (a + 1) = true then sm (fun c' => bf F L ok m a c' * (if cf F c' = 0 then 0 else W (a + 1) (cf F c'))) (F + L + 1) else 0)]
  rw [show sm (fun a => if a ≤ m then (if ok (m + 1) a = true then sm (fun c' => bf F L ok m a c' * (if cl F L c' = 0 then 0 else W a (cl F L c'))) (F + L + 1) else 0) else 0) (m + 1 + 1) = sm (fun a => if ok (m + 1) a = true then sm (fun c' => bf F L ok m a c' * (if cl F L c' = 0 then 0 else W a (cl F L c'))) (F + L + 1) else 0) (m + 1) from by
    rw [sm, if_neg (by omega), Nat.add_zero]
    exact sm_cong _ (fun a ha => if_pos (by omega))]
  rw [← sm_add]
  refine sm_cong _ (fun a _ => ?_)
  unfold adj
  have e3 : sm (fun c => bf F L ok m a c * ((if ok (m + 1) (a + 1) = true then (if cf F c = 0 then 0 else W (a + 1) (cf F c)) else 0) + (if ok (m + 1) a = true then (if cl F L c = 0 then 0 else W a (cl F L c)) else 0))) (F + L + 1) = sm (fun c => (if ok (m + 1) (a + 1) = true then bf F L ok m a c * (if cf F c = 0 then 0 else W (a + 1) (cf F c)) else 0) + (if ok (m + 1) a = true then bf F L ok m a c * (if cl F L c = 0 then 0 else W a (cl F L c)) else 0)) (F + L + 1) := by
    refine sm_cong _ (fun c _ => ?_)
    rw [Nat.mul_add]
    congr 1
    · split
      · rfl
      · rw [Nat.mul_zero]
    · split
      · rfl
      · rw [Nat.mul_zero]
  rw [e3, sm_add]
  congr 1
  · by_cases h : ok (m + 1) (a + 1) = true
    · rw [if_pos h]
      exact sm_cong _ (fun c _ => (if_pos h).symm)
    · rw [if_neg h]
      exact (sm_0 _ (fun c _ => if_neg h)).symm
  · by_cases h : ok (m + 1) a = true
    · rw [if_pos h]
      exact sm_cong _ (fun c _ => (if_pos h).symm)
    · rw [if_neg h]
      exact (sm_0 _ (fun c _ => if_neg h)).symm
theorem wS_cong {F L : Nat} {ok : Nat → Nat → Bool} {m : Nat} {W W' : Nat → Nat → Nat} (h : ∀ a c, a ≤ m → c ≤ F + L → 0 < bf F L ok m a c → W a c = W' a c) : wS F L ok m W = wS F L ok m W' := by
  unfold wS
  refine sm_cong _ (fun a ha => sm_cong _ (fun c hc => ?_))
  rcases Nat.eq_zero_or_pos (bf F L ok m a c) with q | q
  · rw [q, Nat.zero_mul, Nat.zero_mul]
  · rw [h a c (by omega) (by omega) q]
theorem wS_mono {F L : Nat} {ok : Nat → Nat → Bool} {m : Nat} {W W' : Nat → Nat → Nat} (h : ∀ a c, W a c ≤ W' a c) : wS F L ok m W ≤ wS F L ok m W' := by
  unfold wS
  exact sm_mono _ (fun a _ => sm_mono _ (fun c _ => Nat.mul_le_mul_left _ (h a c)))
theorem wS_two {F L : Nat} {ok : Nat → Nat → Bool} {m : Nat} : wS F L ok m (fun _ _ => 2) = wS F L ok m (fun _ _ => 1) * 2 := by
  unfold wS
  rw [← sm_mulr]
  refine sm_cong _ (fun a _ => ?_)
  rw [← sm_mulr]
  exact sm_cong _ (fun c _ => by rw [Nat.mul_one])
theorem wS_1 {F L : Nat} (hF1 : 1 ≤ F) (hL1 : 1 ≤ L) (hF : F ≤ 5) (hL : L ≤ 5) (ok : Nat → Nat → Bool) : ∀ m, wS F L ok m (fun _ _ => 1) ≤ 2 ^ m := by
  intro m
  induction m with
  | zero =>
    unfold wS
    rw [sm, sm, sm_one (k := 0) _ (fun c _ h => by rw [bf, if_neg (fun q => h q.2), Nat.zero_mul]), if_pos (by omega), bf, if_pos ⟨rfl, rfl⟩]
    exact Nat.le_refl _
  | succ m ih =>
    rw [wS_step hF1 hL1 hF hL]
    have h1 := wS_mono (F := F) (L := L) (ok := ok) (m := m) (W := adj F L ok m (fun _ _ => 1)) (W' := fun _ _ => 2) (fun a c => by
      unfold adj
      have e : ∀ (p : Prop) [Decidable p] (k : Nat), (if p then (if k = 0 then 0 else 1) else 0) ≤ 1 := by
        intro p _ k
        split
        · split <;> omega
        · omega
      have e1 := e (ok (m + 1) (a + 1) = true) (cf F c)
      have e2 := e (ok (m + 1) a = true) (cl F L c)
      dsimp only
      omega)
    rw [wS_two] at h1
    rw [Nat.pow_succ]
    omega
theorem bf_le {F L : Nat} (hF1 : 1 ≤ F) (hL1 : 1 ≤ L) (hF : F ≤ 5) (hL : L ≤ 5) (ok : Nat → Nat → Bool) {m a c : Nat} (ha : a ≤ m) (hc : c ≤ F + L) : bf F L ok m a c ≤ 2 ^ m := by
  refine Nat.le_trans ?_ (wS_1 hF1 hL1 hF hL ok m)
  unfold wS
  refine Nat.le_trans ?_ (sm_le (f := fun a => sm (fun c => bf F L ok m a c * 1) (F + L + 1)) (m + 1) a (by omega))
  refine Nat.le_trans ?_ (sm_le (f := fun c => bf F L ok m a c * 1) (F + L + 1) c (by omega))
  rw [Nat.mul_one]
  exact Nat.le_refl _
theorem bf_ok {F L : Nat} {ok : Nat → Nat → Bool} {m a c : Nat} (h0 : ok 0 0 = true) (h : 0 < bf F L ok m a c) : ok m a = true := by
  cases m with
  | zero =>
    rw [bf] at h
    by_cases q : a = 0 ∧ c = 0
    · rw [q.1]
      exact h0
    · rw [if_neg q] at h
      omega
  | succ m =>
    rw [bf] at h
    by_cases q : ok (m + 1) a = true
    · exact q
    · rw [if_neg q] at h
      omega
theorem tu_0 {F L : Nat} {s b : Nat → Nat} {c N : Nat} (hc : ∀ c', c' < N → ¬ s c' = c) : sm (fun c' => if s c' = c then b c' else 0) N = 0 := sm_0 _ (fun c' h => if_neg (hc c' h))
theorem bf_V {F L : Nat} (hF1 : 1 ≤ F) (hL1 : 1 ≤ L) (hF : F ≤ 5) (hL : L ≤ 5) {ok : Nat → Nat → Bool} {m a c : Nat} (h : ¬ oV F L m c) : bf F L ok m a c = 0 := by
  cases m with
  | zero =>
    rw [bf, if_neg (fun q => h (Or.inl ⟨rfl, q.2⟩))]
  | succ m =>
    have e : ∀ b, fu F L b c = 0 ∧ lu F L b c = 0 := by
      intro b
      unfold fu lu
      by_cases c0 : c = 0
      · rw [if_pos c0, if_pos c0]
        exact ⟨rfl, rfl⟩
      · rw [if_neg c0, if_neg c0]
        have hc : F + L < c := Nat.lt_of_not_le (fun q => h (Or.inr ⟨by omega, by omega, q⟩))
        exact ⟨tu_0 (F := F) (L := L) (fun c' q => by have := (cf_jn hF1 hL1 hF hL (show c' ≤ F + L by omega)).2.2.1; omega), tu_0 (F := F) (L := L) (fun c' q => by have := (cf_jn hF1 hL1 hF hL (show c' ≤ F + L by omega)).2.2.2; omega)⟩
    rw [bf, (e _).1, (e _).2, ite_self, ite_self, ite_self]
theorem bf_hi {F L : Nat} {ok : Nat → Nat → Bool} : ∀ {m a c : Nat}, m < a → bf F L ok m a c = 0 := by
  intro m
  induction m with
  | zero =>
    intro a c h
    rw [bf, if_neg (by omega)]
  | succ m ih =>
    intro a c h
    have e : fu F L (bf F L ok m (a - 1)) c = 0 := by
      unfold fu
      split
      · rfl
      · exact sm_0 _ (fun c' _ => by rw [ih (by omega), ite_self])
    rw [bf, e, if_neg (show ¬ a ≤ m by omega), ite_self, ite_self]
theorem bf_full {F L : Nat} {ok : Nat → Nat → Bool} {m a c : Nat} (hc : c ≤ F + L) (h : 0 < bf F L ok m a c) (h1 : ok (m + 1) (a + 1) = true) (h2 : ¬ cf F c = 0) : 0 < bf F L ok (m + 1) (a + 1) (cf F c) := by
  rw [bf, if_pos h1, if_neg (by omega), show a + 1 - 1 = a by omega]
  have e : bf F L ok m a c ≤ fu F L (bf F L ok m a) (cf F c) := by
    unfold fu
    rw [if_neg h2]
    have := sm_le (f := fun c' => if cf F c' = cf F c then bf F L ok m a c' else 0) (F + L + 1) c (by omega)
    rw [if_pos rfl] at this
    exact this
  omega
theorem bf_lean {F L : Nat} {ok : Nat → Nat → Bool} {m a c : Nat} (ha : a ≤ m) (hc : c ≤ F + L) (h : 0 < bf F L ok m a c) (h1 : ok (m + 1) a = true) (h2 : ¬ cl F L c = 0) : 0 < bf F L ok (m + 1) a (cl F L c) := by
  rw [bf, if_pos h1, if_pos ha]
  have e : bf F L ok m a c ≤ lu F L (bf F L ok m a) (cl F L c) := by
    unfold lu
    rw [if_neg h2]
    have := sm_le (f := fun c' => if cl F L c' = cl F L c then bf F L ok m a c' else 0) (F + L + 1) c (by omega)
    rw [if_pos rfl] at this
    exact this
  omega
theorem wy_step {F L : Nat} (hF1 : 1 ≤ F) (hL1 : 1 ≤ L) (hF : F ≤ 5) (hL : L ≤ 5) {ok : Nat → Nat → Bool} {d m a c : Nat} (hc : c ≤ F + L) (h : ok m a = true) : wy F L ok (d + 1) m a (rho F c) = (if cl F L c = 0 then 0 else wy F L ok d (m + 1) a (rho F (cl F L c))) + (if cf F c = 0 then 0 else wy F L ok d (m + 1) (a + 1) (rho F (cf F c))) := by
  obtain ⟨e1, e0, _, _⟩ := cf_jn hF1 hL1 hF hL hc
  rw [wy, if_pos h, e1, e0]
  congr 1
  · by_cases q : cl F L c = 0
    · rw [if_pos q, if_pos rfl, if_pos q]
    · rw [if_neg q, if_neg (rho_0 q), if_neg q]
  · by_cases q : cf F c = 0
    · rw [if_pos q, if_pos rfl, if_pos q]
    · rw [if_neg q, if_neg (rho_0 q), if_neg q]
theorem wy_cut {F L M m : Nat} (hF1 : 1 ≤ F) (hL1 : 1 ≤ L) (hF : F ≤ 5) (hL : L ≤ 5) {ok op : Nat → Nat → Bool} (h0 : op 0 0 = true) (h1 : ∀ j a, j < m → op j a = ok j a) (h2 : ∀ j a, op j a = true → ok j a = true) (hm : m ≤ M) : ∀ j, j ≤ m → wy F L op M 0 0 0 = wS F L ok j (fun a c => wy F L op (M - j) j a (rho F c)) := by
  intro j
  induction j with
  | zero =>
    intro _
    unfold wS
    rw [sm, sm, sm_one (k := 0) _ (fun c _ h => by rw [bf, if_neg (fun q => h q.2), Nat.zero_mul]), if_pos (by omega), bf, if_pos ⟨rfl, rfl⟩, Nat.one_mul, Nat.zero_add]
    have e : rho F 0 = 0 := by
      unfold rho
      exact if_pos (Nat.zero_le _)
    show wy F L op M 0 0 0 = wy F L op (M - 0) 0 0 (rho F 0)
    rw [e]
    rfl
  | succ j ih =>
    intro hj
    rw [ih (by omega), wS_step hF1 hL1 hF hL]
    refine wS_cong (fun a c ha hc hb => ?_)
    have q1 : op j a = true := by
      rw [h1 j a (by omega)]
      exact bf_ok (h2 0 0 h0) hb
    obtain ⟨d, e⟩ : ∃ d, M - j = d + 1 := ⟨M - j - 1, by omega⟩
    have e2 : M - (j + 1) = d := by omega
    rw [e, e2, wy_step hF1 hL1 hF hL hc q1]
    unfold adj
    rw [Nat.add_comm]
    congr 1
    · by_cases q : ok (j + 1) (a + 1) = true
      · rw [if_pos q]
      · rw [if_neg q]
        split
        · rfl
        · exact wy_0 (fun w => q (h2 _ _ w))
    · by_cases q : ok (j + 1) a = true
      · rw [if_pos q]
      · rw [if_neg q]
        split
        · rfl
        · exact wy_0 (fun w => q (h2 _ _ w))
theorem wy_from {F L : Nat} {ok op : Nat → Nat → Bool} : ∀ (d m a r : Nat), (∀ j a, m ≤ j → op j a = ok j a) → wy F L op d m a r = wy F L ok d m a r := by
  intro d
  induction d with
  | zero =>
    intro m a r h
    rw [wy, wy, h m a (Nat.le_refl _)]
  | succ d ih =>
    intro m a r h
    rw [wy, wy, h m a (Nat.le_refl _), ih _ _ _ (fun j a hj => h j a (by omega)), ih _ _ _ (fun j a hj => h j a (by omega))]
theorem wy_at {F L : Nat} {ok op : Nat → Nat → Bool} {d m a r : Nat} (h : ∀ j a, m < j → op j a = ok j a) (h1 : op m a = ok m a) : wy F L op d m a r = wy F L ok d m a r := by
  cases d with
  | zero => rw [wy, wy, h1]
  | succ d => rw [wy, wy, h1, wy_from d _ _ _ (fun j a hj => h j a (by omega)), wy_from d _ _ _ (fun j a hj => h j a (by omega))]
def stN (F L M : Nat) (ok : Nat → Nat → Bool) (m a : Nat) : Nat := sm (fun c => bf F L ok m a c * wy F L ok (M - m) m a (rho F c)) (F + L + 1)
def pnd (ok : Nat → Nat → Bool) (m a : Nat) : Nat → Nat → Bool := fun j b => ok j b && (decide (¬ j = m) || decide (b = a))
theorem pnd_ne {ok : Nat → Nat → Bool} {m a j b : Nat} (h : ¬ j = m) : pnd ok m a j b = ok j b := by
  unfold pnd
  rw [decide_eq_true h, Bool.true_or, Bool.and_true]
theorem pnd_at {ok : Nat → Nat → Bool} {m a b : Nat} : pnd ok m a m b = (ok m b && decide (b = a)) := by
  unfold pnd
  rw [decide_eq_false (show ¬ ¬ m = m from fun q => q rfl), Bool.false_or]
theorem pnd_le {ok : Nat → Nat → Bool} {m a j b : Nat} (h : pnd ok m a j b = true) : ok j b = true := by
  unfold pnd at h
  rw [Bool.and_eq_true] at h
  exact h.1
theorem st_pin {F L M m a : Nat} (hF1 : 1 ≤ F) (hL1 : 1 ≤ L) (hF : F ≤ 5) (hL : L ≤ 5) {ok : Nat → Nat → Bool} (h0 : ok 0 0 = true) (hm : m ≤ M) (ha : a ≤ m) : wy F L (pnd ok m a) M 0 0 0 = stN F L M ok m a := by
  by_cases hp : pnd ok m a 0 0 = true
  · rw [wy_cut (op := pnd ok m a) (ok := ok) hF1 hL1 hF hL hp (fun j b hj => pnd_ne (by omega)) (fun j b q => pnd_le q) hm m (Nat.le_refl _)]
    unfold wS stN
    rw [sm_one (k := a) (m + 1) (fun b _ hb => sm_0 _ (fun c _ => by
      show bf F L ok m b c * wy F L (pnd ok m a) (M - m) m b (rho F c) = 0
      rw [wy_0 (by rw [pnd_at, decide_eq_false hb, Bool.and_false]; decide), Nat.mul_zero])), if_pos (by omega)]
    refine sm_cong _ (fun c _ => ?_)
    show bf F L ok m a c * wy F L (pnd ok m a) (M - m) m a (rho F c) = bf F L ok m a c * wy F L ok (M - m) m a (rho F c)
    rw [wy_at (ok := ok) (op := pnd ok m a) (fun j b hj => pnd_ne (by omega)) (by rw [pnd_at, decide_eq_true rfl, Bool.and_true])]
  · rw [wy_0 hp]
    have hm0 : m = 0 := Nat.eq_zero_of_not_pos (fun q => hp (by rw [pnd_ne (by omega)]; exact h0))
    subst hm0
    exact absurd (by rw [pnd_at, h0, decide_eq_true (show 0 = a by omega)]; rfl) hp
def tri : Nat → Nat
  | 0 => 0
  | m + 1 => tri m + m + 1
theorem tri_lt {m : Nat} : ∀ {m' : Nat}, m < m' → tri m + m + 1 ≤ tri m' := by
  intro m'
  induction m' with
  | zero => intro h; omega
  | succ m' ih =>
    intro h
    rw [tri]
    by_cases c : m = m'
    · subst c
      exact Nat.le_refl _
    · have := ih (by omega)
      omega
theorem tri_le {m : Nat} (h : m ≤ 25) : tri m ≤ 325 := by
  have e : tri 25 = 325 := by decide
  by_cases c : m = 25
  · subst c
    omega
  · have := tri_lt (m := m) (m' := 25) (by omega)
    omega
theorem ce_inj {m a m' a' : Nat} (ha : a ≤ m) (ha' : a' ≤ m') (h : tri m + a = tri m' + a') : m = m' ∧ a = a' := by
  rcases Nat.lt_trichotomy m m' with q | q | q
  · have := tri_lt q
    omega
  · subst q
    omega
  · have := tri_lt q
    omega
def sp (m a c : Nat) : Nat := 11 * (tri m + a) + c
theorem sp_inj {m a c m' a' c' : Nat} (ha : a ≤ m) (ha' : a' ≤ m') (hc : c ≤ 10) (hc' : c' ≤ 10) (h : sp m a c = sp m' a' c') : m = m' ∧ a = a' ∧ c = c' := by
  unfold sp at h
  obtain ⟨h1, h2⟩ := ce_inj ha ha' (by omega)
  exact ⟨h1, h2, by omega⟩
theorem sp_le {m a c : Nat} (hm : m ≤ 24) (ha : a ≤ 25) (hc : c ≤ 10) : sp m a c ≤ 4000 := by
  have := tri_le (m := m) (by omega)
  unfold sp
  omega
theorem pj_cell0 : ∀ m < 26, ∀ a < 27, fX11_cell (nI m) (nI a) = nI (tri m + a) := by
  decide +kernel
theorem pj_cell {m a : Nat} (hm : m ≤ 25) (ha : a ≤ 26) : fX11_cell (nI m) (nI a) = nI (tri m + a) := pj_cell0 m (by omega) a (by omega)
theorem pj_spot {m a : Nat} (c : Nat) (hm : m ≤ 25) (ha : a ≤ 26) : fX11_spot (nI m) (nI a) (nI c) = nI (sp m a c) := by
  unfold fX11_spot sp
  rw [cal_b, pj_cell hm ha, show (11 : Int32) = nI 11 from rfl, pk_mul, nI_add, Nat.mul_comm]
theorem al_eq {f : Nat → Int32} {M m a : Nat} {ok : Nat → Nat → Bool} (hA : fxA f M ok) (hm : m ≤ M) (hM : M ≤ 24) (ha : a ≤ m) : fX3_allows f (nI m) (nI a) = if ok m a = true then 1 else 0 := by
  have h := hA m hm a (by omega)
  rw [decide_eq_true ha, Bool.true_and] at h
  unfold fX3_allows bfX3_allows_18
  rw [nI_clamp (by omega)]
  by_cases c : ok m a = true
  · rw [if_neg (fun q => by rw [bt_sr1 _ (by omega), h, c] at q; exact Bool.noConfusion q), if_pos c]
  · rw [if_pos ((bt_sr1 _ (by omega)).2 (by rw [h]; exact Bool.eq_false_iff.2 c)), if_neg c]
theorem fr_eq {m : Nat} (hm : m ≤ 25) : fX11_firstRun (nI m) = nI (if m = 0 then 0 else 1) := by
  unfold fX11_firstRun bfX11_firstRun_9
  by_cases c : m = 0
  · subst c
    rw [if_pos nI_0, if_pos rfl, nI_0]
  · rw [if_neg (nI_ne0 (by omega) (by omega)), if_neg c]
    rfl
def lr (F L m : Nat) : Nat := if m = 0 then 0 else F + L
theorem lru_eq {F L m : Nat} (hm : m ≤ 25) : fX11_lastRun (nI m) (nI F) (nI L) = nI (lr F L m) := by
  unfold fX11_lastRun bfX11_lastRun_11 lr
  by_cases c : m = 0
  · subst c
    rw [if_pos nI_0, if_pos rfl, nI_0]
  · rw [if_neg (nI_ne0 (by omega) (by omega)), if_neg c, nI_add]
def ac (s b : Nat → Nat) (r c : Nat) : Nat := if c = 0 then 0 else sm (fun c' => if s c' = c then b c' else 0) r
theorem ac_s (s b : Nat → Nat) (r c : Nat) : ac s b (r + 1) c = ac s b r c + (if c = 0 then 0 else if s r = c then b r else 0) := by
  unfold ac
  split
  · rfl
  · rw [sm]
theorem sm_ext {f : Nat → Nat} {n : Nat} : ∀ k, (∀ i, n ≤ i → i < n + k → f i = 0) → sm f (n + k) = sm f n := by
  intro k
  induction k with
  | zero => intro _; rfl
  | succ k ih =>
    intro h
    rw [show n + (k + 1) = n + k + 1 by omega, sm, h (n + k) (by omega) (by omega), ih (fun i h1 h2 => h i h1 (by omega))]
    rfl
theorem ac_last {F L m : Nat} {s b : Nat → Nat} (c : Nat) (hb : m = 0 → ∀ c', 1 ≤ c' → b c' = 0) : ac s b (lr F L m + 1) c = ac s b (F + L + 1) c := by
  unfold ac lr
  by_cases h : m = 0
  · rw [if_pos h]
    split
    · rfl
    · rw [show F + L + 1 = 0 + 1 + (F + L) by omega]
      exact (sm_ext _ (fun i h1 _ => by rw [hb h i (by omega), ite_self])).symm
  · rw [if_neg h]
theorem ac_first {s b : Nat → Nat} (c : Nat) {m : Nat} (hb : ¬ m = 0 → b 0 = 0) : ac s b (if m = 0 then 0 else 1) c = 0 := by
  unfold ac
  split
  · rfl
  · by_cases h : m = 0
    · rw [if_pos h]
      rfl
    · rw [if_neg h, sm, sm, hb h, ite_self]
theorem tw_s (full lean : Int32) (fbf : Nat → Int32) (p0 p1 : Int32) (z : Nat) (v3 v4 v5 : Int32) (z1 : Nat → Int32) : lfX9_takeOnWithFull full lean fbf p0 p1 (z + 1) v3 v4 v5 z1 = dfX9_takeOnWithFull_25 full lean fbf p0 p1 (lfX9_takeOnWithFull full lean fbf p0 p1 z) v3 v4 v5 z1 := rfl
theorem tw_L {F L m : Nat} (hF1 : 1 ≤ F) (hL1 : 1 ≤ L) (hF : F ≤ 5) (hL : L ≤ 5) {fbf : Nat → Int32} {p1 : Int32} {h g : Nat} {b B : Nat → Nat} {w0 : Nat → Int32} (hm : m ≤ 25) (hh : h + 10 < g) (hg : g ≤ 5000) : ∀ (k r z : Nat) (w : Nat → Int32), r + k = lr F L m + 1 → k < z → (∀ c', c' ≤ F + L → w (h + c') = nI (b c')) → (∀ c, c ≤ 10 → w (g + c) = nI (B c + ac (cf F) b r c)) → (∀ i, (i < g ∨ g + 10 < i) → w i = w0 i) → ∃ w', lfX9_takeOnWithFull (nI F) (nI L) fbf (nI m) p1 z (nI h) (nI g) (nI r) w = w' ∧ (∀ c, c ≤ 10 → w' (g + c) = nI (B c + ac (cf F) b (lr F L m + 1) c)) ∧ ∀ i, (i < g ∨ g + 10 < i) → w' i = w0 i := by
  intro k
  induction k with
  | zero =>
    intro r z w hr hz h1 h2 h3
    obtain ⟨z, rfl⟩ : ∃ y, z = y + 1 := ⟨z - 1, by omega⟩
    have hl : lr F L m ≤ 10 := by unfold lr; split <;> omega
    rw [tw_s]
    unfold dfX9_takeOnWithFull_25
    rw [cal_b, lru_eq hm, if_pos (nI_lt (by omega) (by omega))]
    have e : r = lr F L m + 1 := by omega
    rw [e] at h2
    exact ⟨w, rfl, h2, h3⟩
  | succ k ih =>
    intro r z w hr hz h1 h2 h3
    obtain ⟨z, rfl⟩ : ∃ y, z = y + 1 := ⟨z - 1, by omega⟩
    have hl : lr F L m ≤ F + L := by unfold lr; split <;> omega
    have hs := (cf_jn hF1 hL1 hF hL (show r ≤ F + L by omega)).2.2.1
    rw [tw_s]
    unfold dfX9_takeOnWithFull_25 bfX9_takeOnWithFull_80
    rw [cal_b, lru_eq hm, if_neg (nI_nlt (by omega) (by omega)), cal_b, pj_rf hF (show r ≤ 10 by omega), nI_1]
    by_cases c : cf F r = 0
    · rw [c, if_pos nI_0]
      refine ih (r + 1) z w (by omega) (by omega) h1 (fun c' hc' => ?_) h3
      rw [h2 c' hc', ac_s, c]
      by_cases c0 : c' = 0
      · rw [if_pos c0]
        rfl
      · rw [if_neg c0, if_neg (fun q => c0 q.symm)]
        rfl
    · rw [if_neg (nI_ne0 (by omega) (by omega)), nI_add, nI_add, nI_clamp (by omega), nI_clamp (by omega)]
      refine ih (r + 1) z _ (by omega) (by omega) (fun c' hc' => ?_) (fun c' hc' => ?_) (fun i hi => ?_)
      · rw [upd_ne (by omega)]
        exact h1 c' hc'
      · rw [ac_s]
        by_cases c1 : cf F r = c'
        · rw [c1, show upd w (g + c') (w (g + c') + w (h + r)) (g + c') = w (g + c') + w (h + r) from if_pos rfl, h2 c' hc', h1 r (by omega), nI_add, if_neg (by omega), if_pos rfl, Nat.add_assoc]
        · rw [upd_ne (by omega), h2 c' hc', if_neg c1, ite_self]
          rfl
      · rw [upd_ne (by omega)]
        exact h3 i hi
theorem tw_eq {F L m a : Nat} (hF1 : 1 ≤ F) (hL1 : 1 ≤ L) (hF : F ≤ 5) (hL : L ≤ 5) {w : Nat → Int32} {b B : Nat → Nat} (hm : m ≤ 23) (ha : a ≤ m) (hb0 : m = 0 → ∀ c', 1 ≤ c' → b c' = 0) (hb1 : ¬ m = 0 → b 0 = 0) (h1 : ∀ c', c' ≤ F + L → w (sp m a 0 + c') = nI (b c')) (h2 : ∀ c, c ≤ 10 → w (sp (m + 1) (a + 1) 0 + c) = nI (B c)) : ∃ w', fX9_takeOnWithFull (nI F) (nI L) w (nI m) (nI a) = w' ∧ (∀ c, c ≤ 10 → w' (sp (m + 1) (a + 1) 0 + c) = nI (B c + fu F L b c)) ∧ ∀ i, (i < sp (m + 1) (a + 1) 0 ∨ sp (m + 1) (a + 1) 0 + 10 < i) → w' i = w i := by
  have t1 := tri_lt (m := m) (m' := m + 1) (by omega)
  have t2 := tri_le (m := m + 1) (by omega)
  have hl : lr F L m ≤ 10 := by unfold lr; split <;> omega
  unfold fX9_takeOnWithFull
  rw [nI_1, nI_1, ← nI_0, cal_b, pj_spot 0 (by omega) (by omega), cal_b, pj_spot 0 (by omega) (by omega), cal_b, fr_eq (by omega)]
  obtain ⟨w', e1, e2, e3⟩ := tw_L hF1 hL1 hF hL (fbf := w) (p1 := nI a) (h := sp m a 0) (g := sp (m + 1) (a + 1) 0) (b := b) (B := B) (w0 := w) (m := m) (by omega) (by unfold sp; omega) (by unfold sp; omega) (lr F L m + 1 - (if m = 0 then 0 else 1)) (if m = 0 then 0 else 1) 1000000000 w (by unfold lr; split <;> omega) (by omega) h1 (fun c hc => by rw [ac_first c hb1]; exact h2 c hc) (fun _ _ => rfl)
  refine ⟨w', e1, fun c hc => ?_, e3⟩
  rw [e2 c hc, ac_last c hb0]
  rfl
theorem tl_s (full lean : Int32) (fbf : Nat → Int32) (p0 p1 : Int32) (z : Nat) (v3 v4 v5 : Int32) (z1 : Nat → Int32) : lfX9_takeOnWithLean full lean fbf p0 p1 (z + 1) v3 v4 v5 z1 = dfX9_takeOnWithLean_23 full lean fbf p0 p1 (lfX9_takeOnWithLean full lean fbf p0 p1 z) v3 v4 v5 z1 := rfl
theorem tl_L {F L m : Nat} (hF1 : 1 ≤ F) (hL1 : 1 ≤ L) (hF : F ≤ 5) (hL : L ≤ 5) {fbf : Nat → Int32} {p1 : Int32} {h g : Nat} {b B : Nat → Nat} {w0 : Nat → Int32} (hm : m ≤ 25) (hh : h + 10 < g) (hg : g ≤ 5000) : ∀ (k r z : Nat) (w : Nat → Int32), r + k = lr F L m + 1 → k < z → (∀ c', c' ≤ F + L → w (h + c') = nI (b c')) → (∀ c, c ≤ 10 → w (g + c) = nI (B c + ac (cl F L) b r c)) → (∀ i, (i < g ∨ g + 10 < i) → w i = w0 i) → ∃ w', lfX9_takeOnWithLean (nI F) (nI L) fbf (nI m) p1 z (nI h) (nI g) (nI r) w = w' ∧ (∀ c, c ≤ 10 → w' (g + c) = nI (B c + ac (cl F L) b (lr F L m + 1) c)) ∧ ∀ i, (i < g ∨ g + 10 < i) → w' i = w0 i := by
  intro k
  induction k with
  | zero =>
    intro r z w hr hz h1 h2 h3
    obtain ⟨z, rfl⟩ : ∃ y, z = y + 1 := ⟨z - 1, by omega⟩
    have hl : lr F L m ≤ 10 := by unfold lr; split <;> omega
    rw [tl_s]
    unfold dfX9_takeOnWithLean_23
    rw [cal_b, lru_eq hm, if_pos (nI_lt (by omega) (by omega))]
    have e : r = lr F L m + 1 := by omega
    rw [e] at h2
    exact ⟨w, rfl, h2, h3⟩
  | succ k ih =>
    intro r z w hr hz h1 h2 h3
    obtain ⟨z, rfl⟩ : ∃ y, z = y + 1 := ⟨z - 1, by omega⟩
    have hl : lr F L m ≤ F + L := by unfold lr; split <;> omega
    have hs := (cf_jn hF1 hL1 hF hL (show r ≤ F + L by omega)).2.2.2
    rw [tl_s]
    unfold dfX9_takeOnWithLean_23 bfX9_takeOnWithLean_82
    rw [cal_b, lru_eq hm, if_neg (nI_nlt (by omega) (by omega)), cal_b, pj_rl hF hL (show r ≤ 10 by omega), nI_1]
    by_cases c : cl F L r = 0
    · rw [c, if_pos nI_0]
      refine ih (r + 1) z w (by omega) (by omega) h1 (fun c' hc' => ?_) h3
      rw [h2 c' hc', ac_s, c]
      by_cases c0 : c' = 0
      · rw [if_pos c0]
        rfl
      · rw [if_neg c0, if_neg (fun q => c0 q.symm)]
        rfl
    · rw [if_neg (nI_ne0 (by omega) (by omega)), nI_add, nI_add, nI_clamp (by omega), nI_clamp (by omega)]
      refine ih (r + 1) z _ (by omega) (by omega) (fun c' hc' => ?_) (fun c' hc' => ?_) (fun i hi => ?_)
      · rw [upd_ne (by omega)]
        exact h1 c' hc'
      · rw [ac_s]
        by_cases c1 : cl F L r = c'
        · rw [c1, show upd w (g + c') (w (g + c') + w (h + r)) (g + c') = w (g + c') + w (h + r) from if_pos rfl, h2 c' hc', h1 r (by omega), nI_add, if_neg (by omega), if_pos rfl, Nat.add_assoc]
        · rw [upd_ne (by omega), h2 c' hc', if_neg c1, ite_self]
          rfl
      · rw [upd_ne (by omega)]
        exact h3 i hi
theorem tl_eq {F L m a : Nat} (hF1 : 1 ≤ F) (hL1 : 1 ≤ L) (hF : F ≤ 5) (hL : L ≤ 5) {w : Nat → Int32} {b B : Nat → Nat} (hm : m ≤ 23) (ha : a ≤ m) (hb0 : m = 0 → ∀ c', 1 ≤ c' → b c' = 0) (hb1 : ¬ m = 0 → b 0 = 0) (h1 : ∀ c', c' ≤ F + L → w (sp m a 0 + c') = nI (b c')) (h2 : ∀ c, c ≤ 10 → w (sp (m + 1) a 0 + c) = nI (B c)) : ∃ w', fX9_takeOnWithLean (nI F) (nI L) w (nI m) (nI a) = w' ∧ (∀ c, c ≤ 10 → w' (sp (m + 1) a 0 + c) = nI (B c + lu F L b c)) ∧ ∀ i, (i < sp (m + 1) a 0 ∨ sp (m + 1) a 0 + 10 < i) → w' i = w i := by
  have t1 := tri_lt (m := m) (m' := m + 1) (by omega)
  have t2 := tri_le (m := m + 1) (by omega)
  have hl : lr F L m ≤ 10 := by unfold lr; split <;> omega
  unfold fX9_takeOnWithLean
  rw [nI_1, ← nI_0, cal_b, pj_spot 0 (by omega) (by omega), cal_b, pj_spot 0 (by omega) (by omega), cal_b, fr_eq (by omega)]
  obtain ⟨w', e1, e2, e3⟩ := tl_L hF1 hL1 hF hL (fbf := w) (p1 := nI a) (h := sp m a 0) (g := sp (m + 1) a 0) (b := b) (B := B) (w0 := w) (m := m) (by omega) (by unfold sp; omega) (by unfold sp; omega) (lr F L m + 1 - (if m = 0 then 0 else 1)) (if m = 0 then 0 else 1) 1000000000 w (by unfold lr; split <;> omega) (by omega) h1 (fun c hc => by rw [ac_first c hb1]; exact h2 c hc) (fun _ _ => rfl)
  refine ⟨w', e1, fun c hc => ?_, e3⟩
  rw [e2 c hc, ac_last c hb0]
  rfl
def pb (F L : Nat) (ok : Nat → Nat → Bool) (m a b c : Nat) : Nat := if b < a then bf F L ok (m + 1) b c else if b = a then (if ok (m + 1) b = true ∧ ¬ b = 0 then fu F L (bf F L ok m (b - 1)) c else 0) else 0
def bI (F L : Nat) (ok : Nat → Nat → Bool) (m a : Nat) (w : Nat → Int32) : Prop := (∀ j b c, j ≤ m → b ≤ j → c ≤ 10 → w (sp j b c) = nI (bf F L ok j b c)) ∧ (∀ b c, m + 1 ≤ 24 → b ≤ m + 1 → c ≤ 10 → w (sp (m + 1) b c) = nI (pb F L ok m a b c)) ∧ ∀ j b c, m + 1 < j → j ≤ 24 → b ≤ j → c ≤ 10 → w (sp j b c) = 0
theorem cb_s1 (M F L : Int32) (f al : Nat → Int32) (z : Nat) (v : Int32) (w : Nat → Int32) : (lfX9_countBefore M F L f al (z + 1)).1 v w = dfX9_countBefore_9 M F L f al (lfX9_countBefore M F L f al z) v w := rfl
theorem cb_s2 (M F L : Int32) (f al : Nat → Int32) (z : Nat) (v a : Int32) (w : Nat → Int32) : (lfX9_countBefore M F L f al (z + 1)).2 v a w = dfX9_countBefore_19 M F L f al (lfX9_countBefore M F L f al z) v a w := rfl
theorem sp_add (m a c : Nat) : sp m a 0 + c = sp m a c := rfl
theorem bf_first {F L m : Nat} (hF1 : 1 ≤ F) (hL1 : 1 ≤ L) (hF : F ≤ 5) (hL : L ≤ 5) {ok : Nat → Nat → Bool} (a : Nat) : (m = 0 → ∀ c', 1 ≤ c' → bf F L ok m a c' = 0) ∧ (¬ m = 0 → bf F L ok m a 0 = 0) := by
  refine ⟨fun h c' hc => ?_, fun h => ?_⟩
  · subst h
    rw [bf, if_neg (by omega)]
  · exact bf_V hF1 hL1 hF hL (fun q => by rcases q with q | q <;> omega)
theorem bI_step {F L M m a : Nat} (hF1 : 1 ≤ F) (hL1 : 1 ≤ L) (hF : F ≤ 5) (hL : L ≤ 5) {ok : Nat → Nat → Bool} {f al : Nat → Int32} (hA : fxA al M ok) (hM : M ≤ 24) (hm : m + 1 ≤ M) (ha : a ≤ m) {w : Nat → Int32} (h : bI F L ok m a w) (z : Nat) : ∃ w', bI F L ok m (a + 1) w' ∧ dfX9_countBefore_19 (nI M) (nI F) (nI L) f al (lfX9_countBefore (nI M) (nI F) (nI L) f al z) (nI m) (nI a) w = (lfX9_countBefore (nI M) (nI F) (nI L) f al z).2 (nI m) (nI (a + 1)) w' := by
  obtain ⟨h1, h2, h3⟩ := h
  obtain ⟨g0, g1⟩ := bf_first (m := m) hF1 hL1 hF hL (ok := ok) a
  have s1 : ∃ w1 : Nat → Int32, (∀ i, (i < sp (m + 1) (a + 1) 0 ∨ sp (m + 1) (a + 1) 0 + 10 < i) → w1 i = w i) ∧ (∀ c, c ≤ 10 → w1 (sp (m + 1) (a + 1) c) = nI (pb F L ok m (a + 1) (a + 1) c)) ∧ dfX9_countBefore_19 (nI M) (nI F) (nI L) f al (lfX9_countBefore (nI M) (nI F) (nI L) f al z) (nI m) (nI a) w = bfX9_countBefore_43 (nI M) (nI F) (nI L) f al (lfX9_countBefore (nI M) (nI F) (nI L) f al z) (nI m) (nI a) w1 := by
    unfold dfX9_countBefore_19
    rw [if_neg (nI_nlt (by omega) (by omega)), nI_1, nI_1, cal_b, al_eq hA (by omega) hM (by omega)]
    have e0 : ∀ c, c ≤ 10 → w (sp (m + 1) (a + 1) c) = nI 0 := by
      intro c hc
      rw [h2 (a + 1) c (by omega) (by omega) hc]
      unfold pb
      rw [if_neg (by omega), if_neg (by omega)]
    by_cases c : ok (m + 1) (a + 1) = true
    · rw [if_pos c, if_neg (by decide), cal_b]
      obtain ⟨w', e1, e2, e3⟩ := tw_eq hF1 hL1 hF hL (w := w) (m := m) (a := a) (b := bf F L ok m a) (B := fun _ => 0) (by omega) ha g0 g1 (fun c' hc' => h1 m a c' (Nat.le_refl _) ha (by omega)) (fun c hc => e0 c hc)
      rw [e1]
      refine ⟨w', e3, fun c' hc' => ?_, rfl⟩
      rw [← sp_add, e2 c' hc']
      unfold pb
      rw [if_neg (by omega), if_pos rfl, if_pos ⟨c, by omega⟩, Nat.zero_add]
      rfl
    · rw [if_neg c, if_pos rfl]
      refine ⟨w, fun _ _ => rfl, fun c' hc' => ?_, rfl⟩
      rw [e0 c' hc']
      unfold pb
      rw [if_neg (by omega), if_pos rfl, if_neg (fun q => c q.1)]
  obtain ⟨w1, a1, a2, a3⟩ := s1
  have t1 := tri_lt (m := m) (m' := m + 1) (by omega)
  have k1 : ∀ j b c, b ≤ j → c ≤ 10 → ¬ (j = m + 1 ∧ b = a + 1) → w1 (sp j b c) = w (sp j b c) := by
    intro j b c hb hc hn
    refine a1 _ ?_
    rcases Nat.lt_or_ge (sp j b c) (sp (m + 1) (a + 1) 0) with q | q
    · exact Or.inl q
    · rcases Nat.lt_or_ge (sp (m + 1) (a + 1) 0 + 10) (sp j b c) with q2 | q2
      · exact Or.inr q2
      · exfalso
        have := sp_inj (m := j) (a := b) (c := c) (m' := m + 1) (a' := a + 1) (c' := sp j b c - sp (m + 1) (a + 1) 0) hb (by omega) hc (by omega) (by rw [← sp_add (m + 1)]; omega)
        exact hn ⟨this.1, this.2.1⟩
  have s2 : ∃ w2 : Nat → Int32, (∀ i, (i < sp (m + 1) a 0 ∨ sp (m + 1) a 0 + 10 < i) → w2 i = w1 i) ∧ (∀ c, c ≤ 10 → w2 (sp (m + 1) a c) = nI (bf F L ok (m + 1) a c)) ∧ bfX9_countBefore_43 (nI M) (nI F) (nI L) f al (lfX9_countBefore (nI M) (nI F) (nI L) f al z) (nI m) (nI a) w1 = (lfX9_countBefore (nI M) (nI F) (nI L) f al z).2 (nI m) (nI (a + 1)) w2 := by
    unfold bfX9_countBefore_43 bfX9_countBefore_60
    rw [nI_1, nI_1, cal_b, al_eq hA (by omega) hM (by omega)]
    have e0 : ∀ c, c ≤ 10 → w1 (sp (m + 1) a c) = nI (pb F L ok m a a c) := fun c hc => (k1 (m + 1) a c (by omega) hc (by omega)).trans (h2 a c (by omega) (by omega) hc)
    by_cases c : ok (m + 1) a = true
    · rw [if_pos c, if_neg (by decide), cal_b]
      obtain ⟨w', e1, e2, e3⟩ := tl_eq hF1 hL1 hF hL (w := w1) (m := m) (a := a) (b := bf F L ok m a) (B := fun c => pb F L ok m a a c) (by omega) ha g0 g1 (fun c' hc' => (k1 m a c' ha (by omega) (by omega)).trans (h1 m a c' (Nat.le_refl _) ha (by omega))) (fun c hc => e0 c hc)
      rw [e1]
      refine ⟨w', e3, fun c' hc' => ?_, rfl⟩
      rw [← sp_add, e2 c' hc']
      unfold pb
      rw [if_neg (by omega), if_pos rfl, bf, if_pos c, if_pos ha]
      by_cases c0 : a = 0
      · rw [if_neg (fun q => q.2 c0), if_pos c0]
      · rw [if_pos ⟨c, c0⟩, if_neg c0]
    · rw [if_neg c, if_pos rfl]
      refine ⟨w1, fun _ _ => rfl, fun c' hc' => ?_, rfl⟩
      rw [e0 c' hc']
      unfold pb
      rw [if_neg (by omega), if_pos rfl, if_neg (fun q => c q.1), bf, if_neg c]
  obtain ⟨w2, b1, b2, b3⟩ := s2
  have k2 : ∀ j b c, b ≤ j → c ≤ 10 → ¬ (j = m + 1 ∧ b = a) → w2 (sp j b c) = w1 (sp j b c) := by
    intro j b c hb hc hn
    refine b1 _ ?_
    rcases Nat.lt_or_ge (sp j b c) (sp (m + 1) a 0) with q | q
    · exact Or.inl q
    · rcases Nat.lt_or_ge (sp (m + 1) a 0 + 10) (sp j b c) with q2 | q2
      · exact Or.inr q2
      · exfalso
        have := sp_inj (m := j) (a := b) (c := c) (m' := m + 1) (a' := a) (c' := sp j b c - sp (m + 1) a 0) hb (by omega) hc (by omega) (by rw [← sp_add (m + 1)]; omega)
        exact hn ⟨this.1, this.2.1⟩
  refine ⟨w2, ⟨fun j b c hj hb hc => ?_, fun b c _ hb hc => ?_, fun j b c hj hj2 hb hc => ?_⟩, a3.trans b3⟩
  · rw [k2 j b c hb hc (by omega), k1 j b c hb hc (by omega)]
    exact h1 j b c hj hb hc
  · by_cases c1 : b = a
    · subst c1
      rw [b2 c hc]
      unfold pb
      rw [if_pos (by omega)]
    · rw [k2 (m + 1) b c hb hc (by omega)]
      by_cases c2 : b = a + 1
      · subst c2
        exact a2 c hc
      · rw [k1 (m + 1) b c hb hc (by omega), h2 b c (by omega) hb hc]
        unfold pb
        by_cases c3 : b < a
        · rw [if_pos c3, if_pos (by omega)]
        · rw [if_neg c3, if_neg c1, if_neg (by omega), if_neg c2]
  · rw [k2 j b c hb hc (by omega), k1 j b c hb hc (by omega)]
    exact h3 j b c hj hj2 hb hc
theorem bI_row {F L M m : Nat} (hF1 : 1 ≤ F) (hL1 : 1 ≤ L) (hF : F ≤ 5) (hL : L ≤ 5) {ok : Nat → Nat → Bool} {f al : Nat → Int32} (hA : fxA al M ok) (hM : M ≤ 24) (hm : m + 1 ≤ M) : ∀ (k a z : Nat) (w : Nat → Int32), a + k = m + 1 → k < z → bI F L ok m a w → ∃ w', bI F L ok m (m + 1) w' ∧ (lfX9_countBefore (nI M) (nI F) (nI L) f al z).2 (nI m) (nI a) w = (lfX9_countBefore (nI M) (nI F) (nI L) f al (z - k - 1)).1 (nI (m + 1)) w' := by
  intro k
  induction k with
  | zero =>
    intro a z w ha hz h
    obtain ⟨z, rfl⟩ : ∃ y, z = y + 1 := ⟨z - 1, by omega⟩
    have e : a = m + 1 := by omega
    subst e
    refine ⟨w, h, ?_⟩
    rw [cb_s2]
    unfold dfX9_countBefore_19
    rw [if_pos (nI_lt (by omega) (by omega)), nI_1]
    rfl
  | succ k ih =>
    intro a z w ha hz h
    obtain ⟨z, rfl⟩ : ∃ y, z = y + 1 := ⟨z - 1, by omega⟩
    obtain ⟨w1, e1, e2⟩ := bI_step hF1 hL1 hF hL (f := f) hA hM hm (show a ≤ m by omega) h z
    obtain ⟨w2, e3, e4⟩ := ih (a + 1) z w1 (by omega) (by omega) e1
    refine ⟨w2, e3, ?_⟩
    rw [cb_s2, e2, e4, show z + 1 - (k + 1) - 1 = z - k - 1 by omega]
theorem bI_all {F L M : Nat} (hF1 : 1 ≤ F) (hL1 : 1 ≤ L) (hF : F ≤ 5) (hL : L ≤ 5) {ok : Nat → Nat → Bool} {f al : Nat → Int32} (hA : fxA al M ok) (hM : M ≤ 24) : ∀ (k m z : Nat) (w : Nat → Int32), m + k = M → 30 * k < z → bI F L ok m 0 w → ∃ w', (∀ j b c, j ≤ M → b ≤ j → c ≤ 10 → w' (sp j b c) = nI (bf F L ok j b c)) ∧ (lfX9_countBefore (nI M) (nI F) (nI L) f al z).1 (nI m) w = w' := by
  intro k
  induction k with
  | zero =>
    intro m z w hm hz h
    obtain ⟨z, rfl⟩ : ∃ y, z = y + 1 := ⟨z - 1, by omega⟩
    have e : m = M := by omega
    subst e
    refine ⟨w, h.1, ?_⟩
    rw [cb_s1]
    unfold dfX9_countBefore_9
    rw [if_pos (Int32.le_refl _)]
  | succ k ih =>
    intro m z w hm hz h
    obtain ⟨z, rfl⟩ : ∃ y, z = y + 1 := ⟨z - 1, by omega⟩
    obtain ⟨w1, e1, e2⟩ := bI_row hF1 hL1 hF hL (f := f) hA hM (show m + 1 ≤ M by omega) (m + 1) 0 z w (by omega) (by omega) h
    have e3 : bI F L ok (m + 1) 0 w1 := by
      refine ⟨fun j b c hj hb hc => ?_, fun b c hm2 hb hc => ?_, fun j b c hj hj2 hb hc => e1.2.2 j b c (by omega) hj2 hb hc⟩
      · by_cases q : j = m + 1
        · subst q
          rw [e1.2.1 b c (by omega) hb hc]
          unfold pb
          by_cases q2 : b < m + 1
          · rw [if_pos q2]
          · have q3 : b = m + 1 := by omega
            subst q3
            rw [if_neg q2, if_pos rfl, bf]
            by_cases q4 : ok (m + 1) (m + 1) = true
            · rw [if_pos ⟨q4, by omega⟩, if_pos q4, if_neg (by omega), if_neg (show ¬ m + 1 ≤ m by omega)]
              rfl
            · rw [if_neg (fun w => q4 w.1), if_neg q4]
        · exact e1.1 j b c (by omega) hb hc
      · rw [e1.2.2 (m + 1 + 1) b c (by omega) (by omega) hb hc]
        unfold pb
        rw [if_neg (by omega)]
        by_cases q : b = 0
        · rw [if_pos q, if_neg (fun w => w.2 q), nI_0]
        · rw [if_neg q, nI_0]
    obtain ⟨w2, e4, e5⟩ := ih (m + 1) (z - (m + 1) - 1) w1 (by omega) (by omega) e3
    refine ⟨w2, e4, ?_⟩
    rw [cb_s1]
    unfold dfX9_countBefore_9
    rw [if_neg (fun q => by have := (nI_leI (by omega) (by omega)).1 q; omega), ← nI_0, e2, e5]
theorem sp_000 : sp 0 0 0 = 0 := by decide
theorem cb_before {F L M : Nat} (hF1 : 1 ≤ F) (hL1 : 1 ≤ L) (hF : F ≤ 5) (hL : L ≤ 5) {ok : Nat → Nat → Bool} {f al : Nat → Int32} (hA : fxA al M ok) (hM : M ≤ 24) (h0 : ∀ i, i < 3575 → f i = 0) : ∀ j b c, j ≤ M → b ≤ j → c ≤ 10 → fX9_countBefore (nI M) (nI F) (nI L) f al (sp j b c) = nI (bf F L ok j b c) := by
  have hz : ∀ j b c, j ≤ 24 → b ≤ j → c ≤ 10 → ¬ (j = 0 ∧ b = 0 ∧ c = 0) → upd f 0 1 (sp j b c) = 0 := by
    intro j b c hj hb hc hn
    rw [upd_ne (fun q => hn (sp_inj (m' := 0) (a' := 0) (c' := 0) hb (Nat.le_refl _) hc (by omega) (q.trans sp_000.symm)))]
    refine h0 _ ?_
    have := tri_lt (m := j) (m' := 25) (by omega)
    have e : tri 25 = 325 := by decide
    unfold sp
    omega
  have e := bI_all hF1 hL1 hF hL (f := f) hA hM M 0 1000000000 (upd f 0 1) (by omega) (by omega) ⟨fun j b c hj hb hc => ?_, fun b c hm1 hb hc => ?_, fun j b c hj hj2 hb hc => ?_⟩
  · obtain ⟨w', e1, e2⟩ := e
    intro j b c hj hb hc
    unfold fX9_countBefore
    rw [nI_0] at e2
    rw [show (0 : Int32).toNatClampNeg = 0 from by decide, e2]
    exact e1 j b c hj hb hc
  · have ej : j = 0 := by omega
    subst ej
    have eb : b = 0 := by omega
    subst eb
    rw [bf]
    by_cases c0 : c = 0
    · subst c0
      rw [if_pos ⟨rfl, rfl⟩, sp_000]
      exact if_pos rfl
    · rw [if_neg (fun q => c0 q.2), nI_0]
      exact hz 0 0 c (by omega) (by omega) hc (fun q => c0 q.2.2)
  · unfold pb
    rw [if_neg (by omega)]
    have e : upd f 0 1 (sp (0 + 1) b c) = 0 := hz (0 + 1) b c (by omega) hb hc (by omega)
    by_cases q : b = 0
    · rw [if_pos q, if_neg (fun w => w.2 q), nI_0]
      exact e
    · rw [if_neg q, nI_0]
      exact e
  · exact hz j b c hj2 hb hc (by omega)
def bh (F L M : Nat) (ok : Nat → Nat → Bool) (m a c : Nat) : Nat := if 0 < bf F L ok m a c then wy F L ok (M - m) m a (rho F c) else 0
theorem bh_V {F L M : Nat} (hF1 : 1 ≤ F) (hL1 : 1 ≤ L) (hF : F ≤ 5) (hL : L ≤ 5) {ok : Nat → Nat → Bool} {m a c : Nat} (h : ¬ oV F L m c) : bh F L M ok m a c = 0 := by
  unfold bh
  rw [bf_V hF1 hL1 hF hL h, if_neg (by omega)]
theorem bh_last {F L M : Nat} {ok : Nat → Nat → Bool} (h0 : ok 0 0 = true) {a c : Nat} : bh F L M ok M a c = if 1 < bf F L ok M a c then 1 else bf F L ok M a c := by
  unfold bh
  rcases Nat.eq_zero_or_pos (bf F L ok M a c) with q | q
  · rw [q]
    rfl
  · rw [if_pos q, Nat.sub_self, wy, if_pos (bf_ok h0 q)]
    split <;> omega
theorem bh_step {F L M m a c : Nat} (hF1 : 1 ≤ F) (hL1 : 1 ≤ L) (hF : F ≤ 5) (hL : L ≤ 5) {ok : Nat → Nat → Bool} (h0 : ok 0 0 = true) (hm : m + 1 ≤ M) (ha : a ≤ m) (hc : c ≤ F + L) (h : 0 < bf F L ok m a c) : bh F L M ok m a c = bh F L M ok (m + 1) (a + 1) (cf F c) + bh F L M ok (m + 1) a (cl F L c) := by
  obtain ⟨d, e⟩ : ∃ d, M - m = d + 1 := ⟨M - m - 1, by omega⟩
  have e2 : M - (m + 1) = d := by omega
  have e3 : ∀ b c', (ok (m + 1) b = true → ¬ c' = 0 → 0 < bf F L ok (m + 1) b c') → bh F L M ok (m + 1) b c' = if c' = 0 then 0 else wy F L ok d (m + 1) b (rho F c') := by
    intro b c' hp
    by_cases c0 : c' = 0
    · rw [if_pos c0, c0]
      exact bh_V hF1 hL1 hF hL (fun q => by rcases q with q | q <;> omega)
    · rw [if_neg c0]
      unfold bh
      by_cases q : ok (m + 1) b = true
      · rw [if_pos (hp q c0), e2]
      · rw [wy_0 q, ite_self]
        exact (wy_0 q).symm
  rw [e3 (a + 1) (cf F c) (fun q1 q2 => bf_full hc h q1 q2), e3 a (cl F L c) (fun q1 q2 => bf_lean ha hc h q1 q2)]
  unfold bh
  rw [if_pos h, e, wy_step hF1 hL1 hF hL hc (bf_ok h0 h), Nat.add_comm]
def dn (m a r j b c : Nat) : Prop := m < j ∨ (j = m ∧ (b < a ∨ (b = a ∧ c < r)))
def dI (F L M : Nat) (ok : Nat → Nat → Bool) (m a r : Nat) (w : Nat → Int32) : Prop := ∀ j b c, j ≤ M → b ≤ j → c ≤ 10 → (dn m a r j b c → w (sp j b c) = nI (bh F L M ok j b c)) ∧ (¬ dn m a r j b c → w (sp j b c) = 0)
theorem dI_mv {F L M m a r m' a' r' : Nat} {ok : Nat → Nat → Bool} {w : Nat → Int32} (h : dI F L M ok m a r w) (h1 : ∀ j b c, j ≤ M → b ≤ j → c ≤ 10 → (dn m a r j b c ↔ dn m' a' r' j b c) ∨ bh F L M ok j b c = 0) : dI F L M ok m' a' r' w := by
  intro j b c hj hb hc
  obtain ⟨q1, q2⟩ := h j b c hj hb hc
  rcases h1 j b c hj hb hc with e | e
  · exact ⟨fun q => q1 (e.2 q), fun q => q2 (fun w => q (e.1 w))⟩
  · have e2 : w (sp j b c) = 0 := by
      by_cases d : dn m a r j b c
      · rw [q1 d, e, nI_0]
      · exact q2 d
    exact ⟨fun _ => by rw [e2, e, nI_0], fun _ => e2⟩
theorem cd_s1 (M F L : Int32) (f g : Nat → Int32) (z : Nat) (v1 v2 : Int32) (w : Nat → Int32) : (lfX9_countBehind M F L f g (z + 1)).1 v1 v2 w = dfX9_countBehind_12 M F L f g (lfX9_countBehind M F L f g z) v1 v2 w := rfl
theorem cd_s2 (M F L : Int32) (f g : Nat → Int32) (z : Nat) (v : Int32) (w : Nat → Int32) : (lfX9_countBehind M F L f g (z + 1)).2.1 v w = dfX9_countBehind_56 M F L f g (lfX9_countBehind M F L f g z) v w := rfl
theorem cd_s3 (M F L : Int32) (f g : Nat → Int32) (z : Nat) (v a : Int32) (w : Nat → Int32) : (lfX9_countBehind M F L f g (z + 1)).2.2.1 v a w = dfX9_countBehind_62 M F L f g (lfX9_countBehind M F L f g z) v a w := rfl
theorem cd_s4 (M F L : Int32) (f g : Nat → Int32) (z : Nat) (v a h r : Int32) (w : Nat → Int32) : (lfX9_countBehind M F L f g (z + 1)).2.2.2 v a h r w = dfX9_countBehind_81 M F L f g (lfX9_countBehind M F L f g z) v a h r w := rfl
theorem wf_eq {F L M m a c : Nat} (hF1 : 1 ≤ F) (hL1 : 1 ≤ L) (hF : F ≤ 5) (hL : L ≤ 5) {ok : Nat → Nat → Bool} {w : Nat → Int32} (hM : M ≤ 24) (hm : m + 1 ≤ M) (ha : a ≤ m) (hc : c ≤ F + L) (h : ∀ c', c' ≤ 10 → w (sp (m + 1) (a + 1) c') = nI (bh F L M ok (m + 1) (a + 1) c')) : fX9_withFull (nI F) w (nI m) (nI a) (nI c) = nI (bh F L M ok (m + 1) (a + 1) (cf F c)) := by
  have hs := (cf_jn hF1 hL1 hF hL hc).2.2.1
  unfold fX9_withFull
  rw [cal_b, pj_rf hF (by omega), nI_1, nI_1, cal_b, pj_spot _ (by omega) (by omega), nI_clamp (by have := sp_le (m := m + 1) (a := a + 1) (c := cf F c) (by omega) (by omega) (by omega); omega), h _ (by omega)]
theorem wl_eq {F L M m a c : Nat} (hF1 : 1 ≤ F) (hL1 : 1 ≤ L) (hF : F ≤ 5) (hL : L ≤ 5) {ok : Nat → Nat → Bool} {w : Nat → Int32} (hM : M ≤ 24) (hm : m + 1 ≤ M) (ha : a ≤ m) (hc : c ≤ F + L) (h : ∀ c', c' ≤ 10 → w (sp (m + 1) a c') = nI (bh F L M ok (m + 1) a c')) : fX9_withLean (nI F) (nI L) w (nI m) (nI a) (nI c) = nI (bh F L M ok (m + 1) a (cl F L c)) := by
  have hs := (cf_jn hF1 hL1 hF hL hc).2.2.2
  unfold fX9_withLean
  rw [cal_b, pj_rl hF hL (by omega), nI_1, cal_b, pj_spot _ (by omega) (by omega), nI_clamp (by have := sp_le (m := m + 1) (a := a) (c := cl F L c) (by omega) (by omega) (by omega); omega), h _ (by omega)]
theorem cd_run {F L M m a : Nat} (hF1 : 1 ≤ F) (hL1 : 1 ≤ L) (hF : F ≤ 5) (hL : L ≤ 5) {ok : Nat → Nat → Bool} {f g : Nat → Int32} (h0 : ok 0 0 = true) (hM : M ≤ 24) (hm : m + 1 ≤ M) (ha : a ≤ m) (hf : ∀ j b c, j ≤ M → b ≤ j → c ≤ 10 → f (sp j b c) = nI (bf F L ok j b c)) : ∀ (k r z : Nat) (w : Nat → Int32), r + k = lr F L m + 1 → k < z → dI F L M ok m a r w → ∃ w', dI F L M ok m a (lr F L m + 1) w' ∧ (lfX9_countBehind (nI M) (nI F) (nI L) f g z).2.2.2 (nI m) (nI a) (nI (sp m a 0)) (nI r) w = (lfX9_countBehind (nI M) (nI F) (nI L) f g (z - k - 1)).2.2.1 (nI m) (nI (a + 1)) w' := by
  have hl : lr F L m ≤ F + L := by unfold lr; split <;> omega
  have hs := sp_le (m := m) (a := a) (c := 10) (by omega) (by omega) (by omega)
  have hs2 : sp m a 0 + 10 = sp m a 10 := rfl
  intro k
  induction k with
  | zero =>
    intro r z w hr hz h
    obtain ⟨z, rfl⟩ : ∃ y, z = y + 1 := ⟨z - 1, by omega⟩
    have e : r = lr F L m + 1 := by omega
    subst e
    refine ⟨w, h, ?_⟩
    rw [cd_s4]
    unfold dfX9_countBehind_81
    rw [cal_b, lru_eq (by omega), if_pos (nI_lt (by omega) (by omega)), nI_1]
    rfl
  | succ k ih =>
    intro r z w hr hz h
    obtain ⟨z, rfl⟩ : ∃ y, z = y + 1 := ⟨z - 1, by omega⟩
    have hb := bf_le hF1 hL1 hF hL ok (m := m) (a := a) (c := r) ha (by omega)
    have hp : 2 ^ m ≤ 2 ^ 24 := Nat.pow_le_pow_right (by omega) (by omega)
    have ez : z + 1 - (k + 1) - 1 = z - k - 1 := by omega
    rw [cd_s4, ez]
    unfold dfX9_countBehind_81 bfX9_countBehind_138
    rw [cal_b, lru_eq (by omega), if_neg (nI_nlt (by omega) (by omega)), nI_add, nI_clamp (by omega), sp_add, hf m a r (by omega) ha (by omega), nI_1]
    by_cases c : 0 < bf F L ok m a r
    · rw [if_neg (nI_nle c (by omega)), cal_b, wf_eq hF1 hL1 hF hL (ok := ok) hM hm ha (by omega) (fun c' hc' => (h (m + 1) (a + 1) c' (by omega) (by omega) hc').1 (Or.inl (by omega))), cal_b, wl_eq hF1 hL1 hF hL (ok := ok) hM hm ha (by omega) (fun c' hc' => (h (m + 1) a c' (by omega) (by omega) hc').1 (Or.inl (by omega))), nI_add, ← bh_step hF1 hL1 hF hL h0 hm ha (by omega) c]
      refine ih (r + 1) z _ (by omega) (by omega) (fun j b c' hj hb' hc' => ?_)
      by_cases e : j = m ∧ b = a ∧ c' = r
      · obtain ⟨e1, e2, e3⟩ := e
        subst e1 e2 e3
        refine ⟨fun _ => if_pos rfl, fun q => absurd (Or.inr ⟨rfl, Or.inr ⟨rfl, by omega⟩⟩) q⟩
      · rw [upd_ne (fun q => e (sp_inj hb' ha hc' (by omega) q))]
        obtain ⟨q1, q2⟩ := h j b c' hj hb' hc'
        refine ⟨fun q => q1 ?_, fun q => q2 (fun w => q ?_)⟩
        · unfold dn at q ⊢
          omega
        · unfold dn at w ⊢
          omega
    · rw [if_pos (by rw [Nat.eq_zero_of_not_pos c, nI_0]; exact Int32.le_refl _)]
      refine ih (r + 1) z w (by omega) (by omega) (dI_mv h (fun j b c' hj hb' hc' => ?_))
      by_cases e : j = m ∧ b = a ∧ c' = r
      · obtain ⟨e1, e2, e3⟩ := e
        subst e1 e2 e3
        exact Or.inr (if_neg c)
      · refine Or.inl ?_
        unfold dn
        omega
theorem cd_row {F L M m : Nat} (hF1 : 1 ≤ F) (hL1 : 1 ≤ L) (hF : F ≤ 5) (hL : L ≤ 5) {ok : Nat → Nat → Bool} {f g : Nat → Int32} (h0 : ok 0 0 = true) (hM : M ≤ 24) (hm : m + 1 ≤ M) (hf : ∀ j b c, j ≤ M → b ≤ j → c ≤ 10 → f (sp j b c) = nI (bf F L ok j b c)) : ∀ (k a z : Nat) (w : Nat → Int32), a + k = m + 1 → 20 * k < z → dI F L M ok m a 0 w → ∃ (w' : Nat → Int32) (z' : Nat), dI F L M ok m (m + 1) 0 w' ∧ z ≤ z' + 20 * k + 1 ∧ (lfX9_countBehind (nI M) (nI F) (nI L) f g z).2.2.1 (nI m) (nI a) w = (lfX9_countBehind (nI M) (nI F) (nI L) f g z').2.1 (nI m + (-1 : Int32)) w' := by
  have hl : lr F L m ≤ F + L := by unfold lr; split <;> omega
  intro k
  induction k with
  | zero =>
    intro a z w ha hz h
    obtain ⟨z, rfl⟩ : ∃ y, z = y + 1 := ⟨z - 1, by omega⟩
    have e : a = m + 1 := by omega
    subst e
    refine ⟨w, z, h, by omega, ?_⟩
    rw [cd_s3]
    unfold dfX9_countBehind_62
    rw [if_pos (nI_lt (by omega) (by omega))]
  | succ k ih =>
    intro a z w ha hz h
    obtain ⟨z, rfl⟩ : ∃ y, z = y + 1 := ⟨z - 1, by omega⟩
    rw [cd_s3]
    unfold dfX9_countBehind_62
    rw [if_neg (nI_nlt (by omega) (by omega)), ← nI_0, cal_b, pj_spot 0 (by omega) (by omega), cal_b, fr_eq (by omega)]
    have hz0 : ∀ b r, bh F L M ok m b r = 0 ∨ oV F L m r := by
      intro b r
      by_cases q : oV F L m r
      · exact Or.inr q
      · exact Or.inl (bh_V hF1 hL1 hF hL q)
    have h1 : dI F L M ok m a (if m = 0 then 0 else 1) w := dI_mv h (fun j b c hj hb hc => by
      by_cases e : j = m ∧ b = a ∧ c < (if m = 0 then 0 else 1)
      · obtain ⟨e1, e2, e3⟩ := e
        subst e1
        rcases hz0 b c with q | q
        · exact Or.inr q
        · exfalso
          unfold oV at q
          split at e3 <;> omega
      · refine Or.inl ?_
        unfold dn
        omega)
    obtain ⟨w1, e1, e2⟩ := cd_run hF1 hL1 hF hL (g := g) h0 hM hm (show a ≤ m by omega) hf (lr F L m + 1 - (if m = 0 then 0 else 1)) (if m = 0 then 0 else 1) z w (by unfold lr; split <;> omega) (by omega) h1
    have h2 : dI F L M ok m (a + 1) 0 w1 := dI_mv e1 (fun j b c hj hb hc => by
      by_cases e : j = m ∧ b = a ∧ lr F L m < c
      · obtain ⟨e3, e4, e5⟩ := e
        subst e3
        rcases hz0 b c with q | q
        · exact Or.inr q
        · exfalso
          unfold oV at q
          unfold lr at e5
          split at e5 <;> omega
      · refine Or.inl ?_
        unfold dn
        omega)
    obtain ⟨w2, z2, e3, e4, e5⟩ := ih (a + 1) (z - (lr F L m + 1 - (if m = 0 then 0 else 1)) - 1) w1 (by omega) (by omega) h2
    exact ⟨w2, z2, e3, by omega, e2.trans e5⟩
def dJ (F L M : Nat) (ok : Nat → Nat → Bool) (k : Nat) (w : Nat → Int32) : Prop := ∀ j b c, j ≤ M → b ≤ j → c ≤ 10 → (k ≤ j → w (sp j b c) = nI (bh F L M ok j b c)) ∧ (j < k → w (sp j b c) = 0)
theorem cd_all {F L M : Nat} (hF1 : 1 ≤ F) (hL1 : 1 ≤ L) (hF : F ≤ 5) (hL : L ≤ 5) {ok : Nat → Nat → Bool} {f g : Nat → Int32} (h0 : ok 0 0 = true) (hM : M ≤ 24) (hf : ∀ j b c, j ≤ M → b ≤ j → c ≤ 10 → f (sp j b c) = nI (bf F L ok j b c)) : ∀ (k z : Nat) (w : Nat → Int32), k ≤ M → 600 * k < z → dJ F L M ok k w → ∃ w', (∀ j b c, j ≤ M → b ≤ j → c ≤ 10 → w' (sp j b c) = nI (bh F L M ok j b c)) ∧ (lfX9_countBehind (nI M) (nI F) (nI L) f g z).2.1 (nI k - (1 : Int32)) w = w' := by
  intro k
  induction k with
  | zero =>
    intro z w hk hz h
    obtain ⟨z, rfl⟩ : ∃ y, z = y + 1 := ⟨z - 1, by omega⟩
    refine ⟨w, fun j b c hj hb hc => (h j b c hj hb hc).1 (Nat.zero_le _), ?_⟩
    rw [cd_s2]
    unfold dfX9_countBehind_56
    rw [nI_0, if_pos (by decide)]
  | succ k ih =>
    intro z w hk hz h
    obtain ⟨z, rfl⟩ : ∃ y, z = y + 1 := ⟨z - 1, by omega⟩
    have h1 : dI F L M ok k 0 0 w := fun j b c hj hb hc => by
      obtain ⟨q1, q2⟩ := h j b c hj hb hc
      refine ⟨fun q => q1 ?_, fun q => q2 ?_⟩
      · unfold dn at q
        omega
      · unfold dn at q
        omega
    obtain ⟨w1, z1, e1, e2, e3⟩ := cd_row hF1 hL1 hF hL (g := g) h0 hM (show k + 1 ≤ M by omega) hf (k + 1) 0 z w (by omega) (by omega) h1
    have h2 : dJ F L M ok k w1 := fun j b c hj hb hc => by
      obtain ⟨q1, q2⟩ := e1 j b c hj hb hc
      refine ⟨fun q => q1 ?_, fun q => q2 ?_⟩
      · unfold dn
        omega
      · unfold dn
        omega
    obtain ⟨w2, e4, e5⟩ := ih z1 w1 (by omega) (by omega) h2
    refine ⟨w2, e4, ?_⟩
    rw [cd_s2]
    unfold dfX9_countBehind_56
    rw [nI_pred, if_neg (nI_pos (by omega)), ← nI_0, e3, ← Int32.sub_eq_add_neg, e5]
theorem cd_init {F L M : Nat} {f g : Nat → Int32} (hM : M ≤ 24) {w0 : Nat → Int32} : ∀ (n i z : Nat) (w : Nat → Int32), i + n = sp M 0 0 + (M + 1) * 11 → n < z → sp M 0 0 ≤ i → (∀ q, w q = if sp M 0 0 ≤ q ∧ q < i then (if (1 : Int32) < f q then (1 : Int32) else f q) else w0 q) → ∃ w', (∀ q, w' q = if sp M 0 0 ≤ q ∧ q < sp M 0 0 + (M + 1) * 11 then (if (1 : Int32) < f q then (1 : Int32) else f q) else w0 q) ∧ (lfX9_countBehind (nI M) (nI F) (nI L) f g z).1 (nI (sp M 0 0)) (nI i) w = (lfX9_countBehind (nI M) (nI F) (nI L) f g (z - n - 1)).2.1 (nI M - (1 : Int32)) w' := by
  have hs := sp_le (m := M) (a := 0) (c := 0) hM (by omega) (by omega)
  have e1 : nI (sp M 0 0) + ((nI M + (1 : Int32)) * (11 : Int32)) = nI (sp M 0 0 + (M + 1) * 11) := by
    rw [nI_1, show (11 : Int32) = nI 11 from rfl, pk_mul, nI_add]
  intro n
  induction n with
  | zero =>
    intro i z w hi hz h1 h2
    obtain ⟨z, rfl⟩ : ∃ y, z = y + 1 := ⟨z - 1, by omega⟩
    have e : i = sp M 0 0 + (M + 1) * 11 := by omega
    subst e
    refine ⟨w, h2, ?_⟩
    rw [cd_s1]
    unfold dfX9_countBehind_12
    rw [e1, if_pos (Int32.le_refl _)]
    rfl
  | succ n ih =>
    intro i z w hi hz h1 h2
    obtain ⟨z, rfl⟩ : ∃ y, z = y + 1 := ⟨z - 1, by omega⟩
    have ez : z + 1 - (n + 1) - 1 = z - n - 1 := by omega
    rw [cd_s1, ez]
    unfold dfX9_countBehind_12
    rw [e1, if_neg (fun q => by have := (nI_leI (by omega) (by omega)).1 q; omega), nI_clamp (by omega), nI_1]
    refine ih (i + 1) z _ (by omega) (by omega) (by omega) (fun q => ?_)
    by_cases e : q = i
    · subst e
      rw [if_pos (show sp M 0 0 ≤ q ∧ q < q + 1 from ⟨h1, by omega⟩)]
      exact if_pos rfl
    · rw [upd_ne e, h2 q]
      by_cases c : sp M 0 0 ≤ q ∧ q < i
      · rw [if_pos c, if_pos (show sp M 0 0 ≤ q ∧ q < i + 1 from ⟨c.1, by omega⟩)]
      · rw [if_neg c, if_neg (by omega)]
theorem cd_behind {F L M : Nat} (hF1 : 1 ≤ F) (hL1 : 1 ≤ L) (hF : F ≤ 5) (hL : L ≤ 5) {ok : Nat → Nat → Bool} {f g : Nat → Int32} (h0 : ok 0 0 = true) (hM : M ≤ 24) (hf : ∀ j b c, j ≤ M → b ≤ j → c ≤ 10 → f (sp j b c) = nI (bf F L ok j b c)) (hg : ∀ i, i < 3575 → g i = 0) : ∀ j b c, j ≤ M → b ≤ j → c ≤ 10 → fX9_countBehind (nI M) (nI F) (nI L) f g (sp j b c) = nI (bh F L M ok j b c) := by
  obtain ⟨w1, e1, e2⟩ := cd_init (F := F) (L := L) (f := f) (g := g) hM (w0 := g) ((M + 1) * 11) (sp M 0 0) 1000000000 g (by omega) (by omega) (Nat.le_refl _) (fun q => by rw [if_neg (by omega)])
  have h1 : dJ F L M ok M w1 := fun j b c hj hb hc => by
    refine ⟨fun q => ?_, fun q => ?_⟩
    · have ej : j = M := by omega
      subst ej
      have hb2 := bf_le hF1 hL1 hF hL ok (m := j) (a := b) (c := c) hb
      have hp : 2 ^ j ≤ 2 ^ 24 := Nat.pow_le_pow_right (by omega) (by omega)
      have hlt : bf F L ok j b c < 2 ^ 31 := by
        by_cases c9 : c ≤ F + L
        · have := hb2 c9
          omega
        · rw [bf_V hF1 hL1 hF hL (fun q => by rcases q with q | q <;> omega)]
          omega
      rw [e1, if_pos (by unfold sp; omega), hf j b c (Nat.le_refl _) hb hc, bh_last h0]
      by_cases c9 : 1 < bf F L ok j b c
      · rw [if_pos (show (1 : Int32) < nI _ from nI_lt (a := 1) c9 hlt), if_pos c9]
        rfl
      · rw [if_neg (show ¬ (1 : Int32) < nI _ from nI_nlt (b := bf F L ok j b c) (a := 1) (by omega) (by omega)), if_neg c9]
    · have t := tri_lt q
      rw [e1, if_neg (by unfold sp; omega)]
      refine hg _ ?_
      have := tri_lt (m := j) (m' := 25) (by omega)
      have e : tri 25 = 325 := by decide
      unfold sp
      omega
  obtain ⟨w2, e3, e4⟩ := cd_all hF1 hL1 hF hL (g := g) h0 hM hf M (1000000000 - (M + 1) * 11 - 1) w1 (Nat.le_refl _) (by omega) h1
  intro j b c hj hb hc
  unfold fX9_countBehind
  rw [← nI_0, cal_b, pj_spot 0 (by omega) (by omega), e2, e4]
  exact e3 j b c hj hb hc
theorem bf_bh {F L M m a c : Nat} {ok : Nat → Nat → Bool} : bf F L ok m a c * bh F L M ok m a c = bf F L ok m a c * wy F L ok (M - m) m a (rho F c) := by
  unfold bh
  rcases Nat.eq_zero_or_pos (bf F L ok m a c) with q | q
  · rw [q, Nat.zero_mul, Nat.zero_mul]
  · rw [if_pos q]
theorem ct_s1 (M F L : Int32) (f g s : Nat → Int32) (z : Nat) (v : Int32) (w : Nat → Int32) : (lfX9_countStarts M F L f g s (z + 1)).1 v w = dfX9_countStarts_2 M F L f g s (lfX9_countStarts M F L f g s z) v w := rfl
theorem ct_s2 (M F L : Int32) (f g s : Nat → Int32) (z : Nat) (v a : Int32) (w : Nat → Int32) : (lfX9_countStarts M F L f g s (z + 1)).2.1 v a w = dfX9_countStarts_12 M F L f g s (lfX9_countStarts M F L f g s z) v a w := rfl
theorem ct_s3 (M F L : Int32) (f g s : Nat → Int32) (z : Nat) (v a h u r : Int32) (w : Nat → Int32) : (lfX9_countStarts M F L f g s (z + 1)).2.2 v a h u r w = dfX9_countStarts_33 M F L f g s (lfX9_countStarts M F L f g s z) v a h u r w := rfl
theorem sm_lr {F L m : Nat} {p : Nat → Nat} (h : ∀ c, ¬ oV F L m c → p c = 0) : sm p (if m = 0 then 0 else 1) = 0 ∧ sm p (lr F L m + 1) = sm p (F + L + 1) := by
  unfold lr
  by_cases c : m = 0
  · subst c
    rw [if_pos rfl, if_pos rfl]
    refine ⟨rfl, ?_⟩
    rw [show F + L + 1 = 0 + 1 + (F + L) by omega]
    exact (sm_ext _ (fun i h1 _ => h i (fun q => by unfold oV at q; omega))).symm
  · rw [if_neg c, if_neg c]
    refine ⟨?_, rfl⟩
    rw [sm, sm, h 0 (fun q => by unfold oV at q; omega)]
theorem ct_run {F L M m a : Nat} (hF1 : 1 ≤ F) (hL1 : 1 ≤ L) (hF : F ≤ 5) (hL : L ≤ 5) {ok : Nat → Nat → Bool} {f g s : Nat → Int32} (hM : M ≤ 24) (hm : m ≤ M) (ha : a ≤ m) (hf : ∀ j b c, j ≤ M → b ≤ j → c ≤ 10 → f (sp j b c) = nI (bf F L ok j b c)) (hg : ∀ j b c, j ≤ M → b ≤ j → c ≤ 10 → g (sp j b c) = nI (bh F L M ok j b c)) : ∀ (k r z : Nat) (w : Nat → Int32), r + k = lr F L m + 1 → k < z → (lfX9_countStarts (nI M) (nI F) (nI L) f g s z).2.2 (nI m) (nI a) (nI (sp m a 0)) (nI (sm (fun c => bf F L ok m a c * wy F L ok (M - m) m a (rho F c)) r)) (nI r) w = (lfX9_countStarts (nI M) (nI F) (nI L) f g s (z - k - 1)).2.1 (nI m) (nI (a + 1)) (upd w (tri m + a) (nI (sm (fun c => bf F L ok m a c * wy F L ok (M - m) m a (rho F c)) (lr F L m + 1)))) := by
  have hl : lr F L m ≤ F + L := by unfold lr; split <;> omega
  have hs := sp_le (m := m) (a := a) (c := 10) (by omega) (by omega) (by omega)
  have hs2 : sp m a 0 + 10 = sp m a 10 := rfl
  have ht := tri_le (m := m) (by omega)
  intro k
  induction k with
  | zero =>
    intro r z w hr hz
    obtain ⟨z, rfl⟩ : ∃ y, z = y + 1 := ⟨z - 1, by omega⟩
    have e : r = lr F L m + 1 := by omega
    subst e
    rw [ct_s3]
    unfold dfX9_countStarts_33
    rw [cal_b, lru_eq (by omega), if_pos (nI_lt (by omega) (by omega)), cal_b, pj_cell (by omega) (by omega), nI_clamp (by omega), nI_1]
    rfl
  | succ k ih =>
    intro r z w hr hz
    obtain ⟨z, rfl⟩ : ∃ y, z = y + 1 := ⟨z - 1, by omega⟩
    have ez : z + 1 - (k + 1) - 1 = z - k - 1 := by omega
    rw [ct_s3, ez]
    unfold dfX9_countStarts_33
    rw [cal_b, lru_eq (by omega), if_neg (nI_nlt (by omega) (by omega)), nI_add, nI_clamp (by omega), sp_add, hf m a r hm ha (by omega), hg m a r hm ha (by omega), pk_mul, bf_bh, nI_add, nI_1]
    exact ih (r + 1) z w (by omega) (by omega)
theorem ct_row {F L M m : Nat} (hF1 : 1 ≤ F) (hL1 : 1 ≤ L) (hF : F ≤ 5) (hL : L ≤ 5) {ok : Nat → Nat → Bool} {f g s : Nat → Int32} (hM : M ≤ 24) (hm : m ≤ M) (hf : ∀ j b c, j ≤ M → b ≤ j → c ≤ 10 → f (sp j b c) = nI (bf F L ok j b c)) (hg : ∀ j b c, j ≤ M → b ≤ j → c ≤ 10 → g (sp j b c) = nI (bh F L M ok j b c)) : ∀ (k a z : Nat) (w : Nat → Int32), a + k = m + 1 → 20 * k < z → (∀ j b, j < m ∨ (j = m ∧ b < a) → b ≤ j → w (tri j + b) = nI (stN F L M ok j b)) → ∃ (w' : Nat → Int32) (z' : Nat), (∀ j b, j < m + 1 → b ≤ j → w' (tri j + b) = nI (stN F L M ok j b)) ∧ z ≤ z' + 20 * k + 1 ∧ (lfX9_countStarts (nI M) (nI F) (nI L) f g s z).2.1 (nI m) (nI a) w = (lfX9_countStarts (nI M) (nI F) (nI L) f g s z').1 (nI (m + 1)) w' := by
  have hl : lr F L m ≤ F + L := by unfold lr; split <;> omega
  intro k
  induction k with
  | zero =>
    intro a z w ha hz h
    obtain ⟨z, rfl⟩ : ∃ y, z = y + 1 := ⟨z - 1, by omega⟩
    refine ⟨w, z, fun j b hj hb => h j b (by omega) hb, by omega, ?_⟩
    rw [ct_s2]
    unfold dfX9_countStarts_12
    rw [if_pos (nI_lt (by omega) (by omega)), nI_1]
  | succ k ih =>
    intro a z w ha hz h
    obtain ⟨z, rfl⟩ : ∃ y, z = y + 1 := ⟨z - 1, by omega⟩
    have hq := sm_lr (F := F) (L := L) (m := m) (p := fun c => bf F L ok m a c * wy F L ok (M - m) m a (rho F c)) (fun c q => by rw [bf_V hF1 hL1 hF hL q, Nat.zero_mul])
    rw [ct_s2]
    unfold dfX9_countStarts_12
    rw [if_neg (nI_nlt (by omega) (by omega)), ← nI_0, cal_b, pj_spot 0 (by omega) (by omega), cal_b, fr_eq (by omega)]
    have e2 := ct_run hF1 hL1 hF hL (ok := ok) (s := s) hM hm (show a ≤ m by omega) hf hg (lr F L m + 1 - (if m = 0 then 0 else 1)) (if m = 0 then 0 else 1) z w (by unfold lr; split <;> omega) (by omega)
    rw [hq.1, hq.2] at e2
    obtain ⟨w2, z2, e3, e4, e5⟩ := ih (a + 1) (z - (lr F L m + 1 - (if m = 0 then 0 else 1)) - 1) (upd w (tri m + a) (nI (stN F L M ok m a))) (by omega) (by omega) (fun j b hj hb => by
      by_cases e : tri j + b = tri m + a
      · obtain ⟨e6, e7⟩ := ce_inj hb (show a ≤ m by omega) e
        subst e6 e7
        exact if_pos rfl
      · rw [upd_ne e]
        refine h j b ?_ hb
        by_cases e6 : j = m ∧ b = a
        · exact absurd (by rw [e6.1, e6.2]) e
        · omega)
    exact ⟨w2, z2, e3, by omega, e2.trans e5⟩
theorem ct_all {F L M : Nat} (hF1 : 1 ≤ F) (hL1 : 1 ≤ L) (hF : F ≤ 5) (hL : L ≤ 5) {ok : Nat → Nat → Bool} {f g s : Nat → Int32} (hM : M ≤ 24) (hf : ∀ j b c, j ≤ M → b ≤ j → c ≤ 10 → f (sp j b c) = nI (bf F L ok j b c)) (hg : ∀ j b c, j ≤ M → b ≤ j → c ≤ 10 → g (sp j b c) = nI (bh F L M ok j b c)) : ∀ (k m z : Nat) (w : Nat → Int32), m + k = M + 1 → 600 * k < z → (∀ j b, j < m → b ≤ j → w (tri j + b) = nI (stN F L M ok j b)) → ∃ w', (∀ j b, j ≤ M → b ≤ j → w' (tri j + b) = nI (stN F L M ok j b)) ∧ (lfX9_countStarts (nI M) (nI F) (nI L) f g s z).1 (nI m) w = w' := by
  intro k
  induction k with
  | zero =>
    intro m z w hk hz h
    obtain ⟨z, rfl⟩ : ∃ y, z = y + 1 := ⟨z - 1, by omega⟩
    refine ⟨w, fun j b hj hb => h j b (by omega) hb, ?_⟩
    rw [ct_s1]
    unfold dfX9_countStarts_2
    rw [if_pos (nI_lt (by omega) (by omega))]
  | succ k ih =>
    intro m z w hk hz h
    obtain ⟨z, rfl⟩ : ∃ y, z = y + 1 := ⟨z - 1, by omega⟩
    obtain ⟨w1, z1, e1, e2, e3⟩ := ct_row hF1 hL1 hF hL (s := s) hM (show m ≤ M by omega) hf hg (m + 1) 0 z w (by omega) (by omega) (fun j b hj hb => h j b (by omega) hb)
    obtain ⟨w2, e4, e5⟩ := ih (m + 1) z1 w1 (by omega) (by omega) e1
    refine ⟨w2, e4, ?_⟩
    rw [ct_s1]
    unfold dfX9_countStarts_2
    rw [if_neg (nI_nlt (by omega) (by omega)), ← nI_0, e3, e5]
theorem z35_s (fa : Nat → Int32) (p1 : Int32) (z : Nat) (v2 v3 : Int32) (w : Nat → Int32) : lfJ7_fill_53178_sJ7_fill3575 fa p1 (z + 1) v2 v3 w = dfJ7_fill_53178_sJ7_fill3575_5 fa p1 (lfJ7_fill_53178_sJ7_fill3575 fa p1 z) v2 v3 w := rfl
theorem z35_L {fa : Nat → Int32} {p1 : Int32} : ∀ (k i z : Nat) (w : Nat → Int32), i + k = 3575 → k < z → (∀ q, q < i → w q = p1) → ∀ q, q < 3575 → lfJ7_fill_53178_sJ7_fill3575 fa p1 z (nI i) (nI 3575) w q = p1 := by
  intro k
  induction k with
  | zero =>
    intro i z w hi hz h q hq
    obtain ⟨z, rfl⟩ : ∃ y, z = y + 1 := ⟨z - 1, by omega⟩
    have e : i = 3575 := by omega
    subst e
    rw [z35_s]
    unfold dfJ7_fill_53178_sJ7_fill3575_5
    rw [if_pos (Int32.le_refl _)]
    exact h q hq
  | succ k ih =>
    intro i z w hi hz h q hq
    obtain ⟨z, rfl⟩ : ∃ y, z = y + 1 := ⟨z - 1, by omega⟩
    rw [z35_s]
    unfold dfJ7_fill_53178_sJ7_fill3575_5
    rw [if_neg (fun w => by have := (nI_leI (by omega) (by omega)).1 w; omega), nI_clamp (by omega), nI_1]
    refine ih (i + 1) z _ (by omega) (by omega) (fun j hj => ?_) q hq
    by_cases e : j = i
    · subst e
      exact if_pos rfl
    · rw [upd_ne e]
      exact h j (by omega)
theorem z35 (fa : Nat → Int32) (p1 : Int32) : ∀ q, q < 3575 → fJ7_fill_53178_sJ7_fill3575 fa p1 q = p1 := by
  intro q hq
  have := z35_L (fa := fa) (p1 := p1) 3575 0 1000000000 fa (by omega) (by omega) (fun j hj => absurd hj (by omega)) q hq
  rw [nI_0] at this
  exact this
def TL (F L M : Nat) (ok : Nat → Nat → Bool) (tm tf tl : Int32) (f g s : Nat → Int32) : Prop := (tm = nI M ∧ tf = nI F ∧ tl = nI L) ∧ (∀ j b c, j ≤ M → b ≤ j → c ≤ 10 → f (sp j b c) = nI (bf F L ok j b c)) ∧ (∀ j b c, j ≤ M → b ≤ j → c ≤ 10 → g (sp j b c) = nI (bh F L M ok j b c)) ∧ ∀ j b, j ≤ M → b ≤ j → s (tri j + b) = nI (stN F L M ok j b)
theorem tl_fill {F L M : Nat} (hF1 : 1 ≤ F) (hL1 : 1 ≤ L) (hF : F ≤ 5) (hL : L ≤ 5) {ok : Nat → Nat → Bool} {al : Nat → Int32} (f g s : Nat → Int32) (h0 : ok 0 0 = true) (hA : fxA al M ok) (hM : M ≤ 24) : ∃ (f' g' s' : Nat → Int32), fX9_fill f g s (nI M) (nI F) (nI L) al = (nI M, nI F, nI L, f', g', s') ∧ TL F L M ok (nI M) (nI F) (nI L) f' g' s' := by
  have h1 := cb_before hF1 hL1 hF hL (f := fJ7_fill_53178_sJ7_fill3575 f 0) hA hM (z35 f 0)
  have h2 := cd_behind hF1 hL1 hF hL (f := fX9_countBefore (nI M) (nI F) (nI L) (fJ7_fill_53178_sJ7_fill3575 f 0) al) (g := fJ7_fill_53178_sJ7_fill3575 g 0) h0 hM h1 (z35 g 0)
  obtain ⟨w', h3, h4⟩ := ct_all hF1 hL1 hF hL (f := fX9_countBefore (nI M) (nI F) (nI L) (fJ7_fill_53178_sJ7_fill3575 f 0) al) (g := fX9_countBehind (nI M) (nI F) (nI L) (fX9_countBefore (nI M) (nI F) (nI L) (fJ7_fill_53178_sJ7_fill3575 f 0) al) (fJ7_fill_53178_sJ7_fill3575 g 0)) (s := s) hM h1 h2 (M + 1) 0 1000000000 s (by omega) (by omega) (fun j b hj => absurd hj (by omega))
  refine ⟨_, _, w', ?_, ⟨rfl, rfl, rfl⟩, h1, h2, h3⟩
  unfold fX9_fill fX9_countStarts
  rw [nI_0] at h4
  rw [cal_b, cal_b, cal_b, cal_b, cal_b, h4]
theorem st_two {F L M m a : Nat} (hF1 : 1 ≤ F) (hL1 : 1 ≤ L) (hF : F ≤ 5) (hL : L ≤ 5) {ok : Nat → Nat → Bool} (h0 : ok 0 0 = true) (hm : m + 1 ≤ M) (ha : a ≤ m) (b : Nat) : wy F L (pnd (pnd ok m a) (m + 1) b) M 0 0 0 = sm (fun c => bf F L ok m a c * ((if b = a then bh F L M ok (m + 1) a (cl F L c) else 0) + (if b = a + 1 then bh F L M ok (m + 1) (a + 1) (cf F c) else 0))) (F + L + 1) := by
  obtain ⟨d, e⟩ : ∃ d, M - m = d + 1 := ⟨M - m - 1, by omega⟩
  have e2 : M - (m + 1) = d := by omega
  have q0 : ∀ j x, ¬ j = m → ¬ j = m + 1 → pnd (pnd ok m a) (m + 1) b j x = ok j x := fun j x h1 h2 => by rw [pnd_ne h2, pnd_ne h1]
  have qm : ∀ x, pnd (pnd ok m a) (m + 1) b m x = (ok m x && decide (x = a)) := fun x => by rw [pnd_ne (by omega), pnd_at]
  have qn : ∀ x, pnd (pnd ok m a) (m + 1) b (m + 1) x = (ok (m + 1) x && decide (x = b)) := fun x => by rw [pnd_at, pnd_ne (by omega)]
  by_cases hp : pnd (pnd ok m a) (m + 1) b 0 0 = true
  · rw [wy_cut (op := pnd (pnd ok m a) (m + 1) b) (ok := ok) (m := m) hF1 hL1 hF hL hp (fun j x hj => q0 j x (by omega) (by omega)) (fun j x q => pnd_le (pnd_le q)) (by omega) m (Nat.le_refl _)]
    unfold wS
    rw [sm_one (k := a) (m + 1) (fun x _ hx => sm_0 _ (fun c _ => by dsimp only; rw [wy_0 (by rw [qm, decide_eq_false hx, Bool.and_false]; decide), Nat.mul_zero])), if_pos (by omega)]
    refine sm_cong _ (fun c hc => ?_)
    rcases Nat.eq_zero_or_pos (bf F L ok m a c) with z | z
    · rw [z, Nat.zero_mul, Nat.zero_mul]
    congr 1
    have okm := bf_ok h0 z
    show wy F L (pnd (pnd ok m a) (m + 1) b) (M - m) m a (rho F c) = _
    rw [e, wy_step hF1 hL1 hF hL (by omega) (by rw [qm, okm, decide_eq_true rfl]; rfl)]
    have e3 : ∀ x c', (ok (m + 1) x = true → ¬ c' = 0 → 0 < bf F L ok (m + 1) x c') → (if c' = 0 then 0 else wy F L (pnd (pnd ok m a) (m + 1) b) d (m + 1) x (rho F c')) = if b = x then bh F L M ok (m + 1) x c' else 0 := by
      intro x c' hq
      by_cases c0 : c' = 0
      · rw [if_pos c0, c0, bh_V hF1 hL1 hF hL (fun q => by rcases q with q | q <;> omega), ite_self]
      · rw [if_neg c0]
        by_cases c1 : b = x
        · subst c1
          rw [if_pos rfl, wy_at (ok := ok) (fun j y hj => q0 j y (by omega) (by omega)) (by rw [qn, decide_eq_true rfl, Bool.and_true])]
          unfold bh
          by_cases q : ok (m + 1) b = true
          · rw [if_pos (hq q c0), e2]
          · rw [e2, wy_0 q, ite_self]
        · rw [if_neg c1, wy_0 (by rw [qn, decide_eq_false (fun w => c1 w.symm), Bool.and_false]; decide)]
    rw [e3 a (cl F L c) (fun q1 q2 => bf_lean ha (by omega) z q1 q2), e3 (a + 1) (cf F c) (fun q1 q2 => bf_full (by omega) z q1 q2)]
  · have hm0 : m = 0 := Nat.eq_zero_of_not_pos (fun q => hp (by rw [q0 0 0 (by omega) (by omega)]; exact h0))
    subst hm0
    exact absurd (by rw [qm, h0, decide_eq_true (show 0 = a by omega)]; rfl) hp
theorem rOK_pin {M : Nat} {ok op : Nat → Nat → Bool} {must least pp : Nat → Int32} (hM : M ≤ 24) (h : rOK M ok must least) (hp : ∀ m a, m ≤ M → a ≤ m → (op m a = true ↔ (ok m a = true ∧ (pp m = -1 ∨ pp m = nI (29 * m + a))))) : ∀ m a : Nat, m ≤ M → a ≤ m → (op m a = true ↔ ¬ fX12_isOpen must least pp (nI m) (nI (29 * m + a)) = 0) := by
  intro m a h1 h2
  obtain ⟨l, l1, l2, _, l3⟩ := h m h1
  rw [hp m a h1 h2, io_eq, nI_clamp (by omega), l2, l3 a h2]
  constructor
  · exact fun q => ⟨q.1.1, nI_nlt q.1.2 (by omega), q.2⟩
  · intro q
    refine ⟨⟨q.1, ?_⟩, q.2.2⟩
    have q2 : ¬ 29 * m + a < l := fun w => q.2.1 (nI_lt w (by omega))
    omega
theorem cw_s1 (mi must least pin ways : Nat → Int32) (p1 p2 p3 p4 : Int32) (z : Nat) (a b : Int32) (w : Nat → Int32) : (lfX12_countsWith mi must least pin ways p1 p2 p3 p4 (z + 1)).1 a b w = dfX12_countsWith_72 mi must least pin ways p1 p2 p3 p4 (lfX12_countsWith mi must least pin ways p1 p2 p3 p4 z) a b w := rfl
theorem cw_s2 (mi must least pin ways : Nat → Int32) (p1 p2 p3 p4 : Int32) (z : Nat) (a b c : Int32) (w : Nat → Int32) : (lfX12_countsWith mi must least pin ways p1 p2 p3 p4 (z + 1)).2.1 a b c w = dfX12_countsWith_97 mi must least pin ways p1 p2 p3 p4 (lfX12_countsWith mi must least pin ways p1 p2 p3 p4 z) a b c w := rfl
theorem cw_s3 (mi must least pin ways : Nat → Int32) (p1 p2 p3 p4 : Int32) (z : Nat) (a b c : Int32) (w y : Nat → Int32) : (lfX12_countsWith mi must least pin ways p1 p2 p3 p4 (z + 1)).2.2 a b c w y = dfX12_countsWith_146 mi must least pin ways p1 p2 p3 p4 (lfX12_countsWith mi must least pin ways p1 p2 p3 p4 z) a b c w y := rfl
theorem i29 (m : Nat) : (29 : Int32) * nI m = nI (29 * m) := by rw [show (29 : Int32) = nI 29 from rfl, pk_mul]
theorem i30 (m : Nat) : (30 : Int32) * nI m = nI (30 * m) := by rw [show (30 : Int32) = nI 30 from rfl, pk_mul]
theorem cw_in {m : Nat} (hm : m ≤ 24) (p2 : Int32) : fX12_in p2.toInt64 ((29 : Int32) * nI m).toInt64 ((30 : Int32) * nI m).toInt64 = if 29 * (m : Int) ≤ p2.toInt ∧ p2.toInt ≤ 30 * (m : Int) then 1 else 0 := by
  rw [i29, i30, dr_in, Int32.toInt_toInt64, Int32.toInt_toInt64, nI_toInt (by omega), nI_toInt (by omega)]
  push_cast
  rfl
theorem cw_inr {m a : Nat} {x : Int32} (hm : m ≤ 24) (ha : a ≤ m) (hx : x = nI (29 * m + a)) : fX12_in x.toInt64 ((29 : Int32) * nI m).toInt64 ((30 : Int32) * nI m).toInt64 = 1 := by
  rw [cw_in hm, hx, nI_toInt (by omega), if_pos (by omega)]
theorem cw_out {mi must least pin ways : Nat → Int32} {m : Nat} {p2 p3 p4 : Int32} (hm : m ≤ 24) (h : ¬ (29 * (m : Int) ≤ p2.toInt ∧ p2.toInt ≤ 30 * (m : Int))) : fX12_countsWith mi must least pin ways (nI m) p2 p3 p4 = (0, pin, ways) := by
  unfold fX12_countsWith bfX12_countsWith_38
  rw [cal_b, cw_in hm, if_neg h, if_pos rfl]
theorem upd_back {pin : Nat → Int32} {m : Nat} {d : Int32} : upd (upd pin m d) m (pin m) = pin := by
  funext j
  unfold upd
  by_cases c : j = m
  · rw [if_pos c, c]
  · rw [if_neg c, if_neg c]
theorem cw_1 {F L M m a : Nat} (hF1 : 1 ≤ F) (hL1 : 1 ≤ L) (hF : F ≤ 5) (hL : L ≤ 5) {ok : Nat → Nat → Bool} {mi must least pin ways : Nat → Int32} (h0 : ok 0 0 = true) (hM : M ≤ 24) (k0 : mi 0 = nI M) (k1 : mi 1 = nI F) (k2 : mi 2 = nI L) (k37 : mi 37 = 0) (hO : rOK M ok must least) (hp : pinF pin) (hm : m ≤ M) (ha : a ≤ m) : ∃ ways' : Nat → Int32, fX12_countsWith mi must least pin ways (nI m) (nI (29 * m + a)) (-1) 0 = (nI (stN F L M ok m a), pin, ways') := by
  have hq := rOK_pin (op := pnd ok m a) (pp := upd pin m (nI (29 * m + a))) hM hO (fun j b hj hb => by
    by_cases e : j = m
    · subst e
      rw [pnd_at, Bool.and_eq_true, decide_eq_true_iff]
      refine and_congr_right (fun _ => ?_)
      rw [show upd pin j (nI (29 * j + a)) j = nI (29 * j + a) from if_pos rfl, nI_eq (by omega) (by omega)]
      constructor
      · intro q
        exact Or.inr (by omega)
      · rintro (q | q)
        · exact absurd q (nIm1 (by omega))
        · omega
    · rw [pnd_ne e, upd_ne e]
      exact ⟨fun q => ⟨q, Or.inl (hp j (by omega))⟩, fun q => q.1⟩)
  obtain ⟨c1, _⟩ := pc_counts (must := must) (least := least) (pin := upd pin m (nI (29 * m + a))) (ways := ways) k0 hM k1 k2 hF hL (fun j b hj hb => by rw [hq j b hj hb]; exact ⟨fun q => ⟨k37, q⟩, fun q => q.2⟩)
  rw [st_pin hF1 hL1 hF hL h0 hm ha] at c1
  obtain ⟨q3, hq3⟩ : ∃ q3, q3 = (-1 : Int32) := ⟨_, rfl⟩
  obtain ⟨q4, hq4⟩ : ∃ q4, q4 = (0 : Int32) := ⟨_, rfl⟩
  rw [← hq3, ← hq4]
  unfold fX12_countsWith bfX12_countsWith_38 bfX12_countsWith_40 bfX12_countsWith_70
  rw [cal_b, cw_inr (show m ≤ 24 by omega) ha rfl, if_neg (by decide), nI_clamp (by omega), if_pos (hp m (by omega)), if_pos hq3, show (1000000000 : Nat) = 999999997 + 1 + 1 + 1 from rfl, cw_s1]
  unfold dfX12_countsWith_72 bfX12_countsWith_90 bfX12_countsWith_95
  rw [if_pos hq3, cw_s2]
  unfold dfX12_countsWith_97 bfX12_countsWith_110 bfX12_countsWith_126 bfX12_countsWith_143 bfX12_countsWith_144
  rw [if_pos hq3, if_neg (by decide), if_neg (fun q => nIm1 (show m < 2 ^ 31 by omega) (q.symm.trans hq3)), if_neg (nI_pos (by omega)), if_neg (by rw [hq4]; decide), cal_b, cw_s3]
  unfold dfX12_countsWith_146 bfX12_countsWith_159
  rw [if_pos hq3, c1, nI_clamp (by omega), upd_back]
  exact ⟨_, rfl⟩
theorem cw_2 {F L M m a b : Nat} (hF1 : 1 ≤ F) (hL1 : 1 ≤ L) (hF : F ≤ 5) (hL : L ≤ 5) {ok : Nat → Nat → Bool} {mi must least pin ways : Nat → Int32} (h0 : ok 0 0 = true) (hM : M ≤ 24) (k0 : mi 0 = nI M) (k1 : mi 1 = nI F) (k2 : mi 2 = nI L) (k37 : mi 37 = 0) (hO : rOK M ok must least) (hp : pinF pin) (hm : m + 1 ≤ M) (ha : a ≤ m) (hb : b ≤ m + 1) : ∃ ways' : Nat → Int32, fX12_countsWith mi must least pin ways (nI m) (nI (29 * m + a)) (nI (m + 1)) (nI (29 * (m + 1) + b)) = (nI (wy F L (pnd (pnd ok m a) (m + 1) b) M 0 0 0), pin, ways') := by
  have hq := rOK_pin (op := pnd (pnd ok m a) (m + 1) b) (pp := upd (upd pin m (nI (29 * m + a))) (m + 1) (nI (29 * (m + 1) + b))) hM hO (fun j x hj hx => by
    by_cases e : j = m + 1
    · subst e
      rw [pnd_at, pnd_ne (by omega), Bool.and_eq_true, decide_eq_true_iff]
      refine and_congr_right (fun _ => ?_)
      rw [show upd (upd pin m (nI (29 * m + a))) (m + 1) (nI (29 * (m + 1) + b)) (m + 1) = nI (29 * (m + 1) + b) from if_pos rfl, nI_eq (by omega) (by omega)]
      constructor
      · intro q
        exact Or.inr (by omega)
      · rintro (q | q)
        · exact absurd q (nIm1 (by omega))
        · omega
    · rw [pnd_ne e, upd_ne e]
      by_cases e2 : j = m
      · subst e2
        rw [pnd_at, Bool.and_eq_true, decide_eq_true_iff]
        refine and_congr_right (fun _ => ?_)
        rw [show upd pin j (nI (29 * j + a)) j = nI (29 * j + a) from if_pos rfl, nI_eq (by omega) (by omega)]
        constructor
        · intro q
          exact Or.inr (by omega)
        · rintro (q | q)
          · exact absurd q (nIm1 (by omega))
          · omega
      · rw [pnd_ne e2, upd_ne e2]
        exact ⟨fun q => ⟨q, Or.inl (hp j (by omega))⟩, fun q => q.1⟩)
  obtain ⟨c1, _⟩ := pc_counts (must := must) (least := least) (pin := upd (upd pin m (nI (29 * m + a))) (m + 1) (nI (29 * (m + 1) + b))) (ways := ways) k0 hM k1 k2 hF hL (fun j b hj hb => by rw [hq j b hj hb]; exact ⟨fun q => ⟨k37, q⟩, fun q => q.2⟩)
  have hn1 : ¬ nI (m + 1) = (-1 : Int32) := nIm1 (by omega)
  have hpn : upd pin m (nI (29 * m + a)) (m + 1) = -1 := (upd_ne (by omega)).trans (hp (m + 1) (by omega))
  unfold fX12_countsWith bfX12_countsWith_38 bfX12_countsWith_40 bfX12_countsWith_70
  rw [cal_b, cw_inr (show m ≤ 24 by omega) ha rfl, if_neg (by decide), nI_clamp (by omega), if_pos (hp m (by omega)), if_neg hn1, nI_clamp (show m + 1 < 2 ^ 31 by omega), hpn, show (1000000000 : Nat) = 999999997 + 1 + 1 + 1 from rfl, cw_s1]
  unfold dfX12_countsWith_72 bfX12_countsWith_90 bfX12_countsWith_95
  rw [if_neg hn1, if_pos rfl, cw_s2]
  unfold dfX12_countsWith_97 bfX12_countsWith_110 bfX12_countsWith_126 bfX12_countsWith_143 bfX12_countsWith_144
  rw [if_neg hn1, if_neg (by decide), if_neg (fun q => by have := (nI_eq (by omega) (by omega)).1 q; omega), if_neg (nI_pos (by omega)), if_neg (fun q => by have q := i32lt.mp q; rw [nI_toInt (by omega), show (-1 : Int32).toInt = -1 by decide] at q; omega), cal_b, nI_clamp (show m + 1 < 2 ^ 31 by omega), cw_s3]
  unfold dfX12_countsWith_146 bfX12_countsWith_159
  rw [if_neg hn1, c1, nI_clamp (show m < 2 ^ 31 by omega), nI_clamp (show m + 1 < 2 ^ 31 by omega)]
  refine ⟨(fX12_counts mi must least (upd (upd pin m (nI (29 * m + a))) (m + 1) (nI (29 * (m + 1) + b))) ways).2, ?_⟩
  have e9 : upd (upd (upd (upd pin m (nI (29 * m + a))) (m + 1) (nI (29 * (m + 1) + b))) (m + 1) (-1)) m (pin m) = pin := by
    funext j
    unfold upd
    by_cases c : j = m
    · rw [if_pos c, c]
    · rw [if_neg c]
      by_cases c2 : j = m + 1
      · rw [if_pos c2, c2]
        exact (hp (m + 1) (by omega)).symm
      · rw [if_neg c2, if_neg c2, if_neg c]
  rw [e9]
theorem jd_00 {F L M n : Nat} {hm ms mp : Int32} {kd mo dy : Nat → Nat} : ∀ l : List Nat, (∀ x, x ∈ l → 1 ≤ mo x) → (jd F L M hm ms mp kd mo dy l).1 0 0 = true := by
  intro l
  induction l with
  | nil => intro _; rfl
  | cons r l ih =>
    intro h
    have h1 := ih (fun x hx => h x (List.mem_cons_of_mem _ hx))
    have h2 := h r (List.mem_cons_self ..)
    rw [jd]
    show (vst F L M hm ms mp (jd F L M hm ms mp kd mo dy l).1 (kd r) (mo r) (dy r)).2 0 0 = true
    unfold vst
    split
    · exact h1
    · split
      · show nrw _ (kd r) (mo r) (dy r) 0 0 = true
        unfold nrw
        rw [h1, decide_eq_true (show ¬ 0 = mo r by omega)]
        rfl
      · exact h1
def T3 (F L M : Nat) (ts : Int32) (al : Nat → Int32) (tm tf tl : Int32) (f g s : Nat → Int32) : Prop := ts = 0 ∨ ∀ ok : Nat → Nat → Bool, ok 0 0 = true → fxA al M ok → TL F L M ok tm tf tl f g s
def TIx (vx : Nat → Int32) (fx : Nat → Nat → Int32) : Prop := T3 (aF vx) (aL vx) (aM vx) (vx 3) (fx 6) (vx 54) (vx 55) (vx 56) (fx 13) (fx 14) (fx 15)
theorem ct_ts {cs cn ts ql tb a b c : Int32} {ve qu bg al on : Nat → Int32} {tu : Nat → Int64} {am af ax hm ms mp rc : Int32} {pn pt rp rk rm rd rn rs : Nat → Int32} {t : Int32} {o : Int32 × Int32 × Int32 × Int32 × Int32 × Int32 × Int32 × Int32 × (Nat → Int32) × (Nat → Int32) × (Nat → Int64) × (Nat → Int32) × (Nat → Int32) × (Nat → Int32)} (ho : o = fX11_courtBy cs cn ts ql tb ve qu tu bg a b c al on am af ax hm ms mp rc pn pt rp rk rm rd rn rs t) : o.2.2.1 = 0 ∨ (o.2.2.1 = ts ∧ o.2.2.2.2.2.2.2.2.2.2.2.2.1 = al) := by
  subst ho
  unfold fX11_courtBy
  rw [cal_b]
  by_cases c1 : cs = 0
  · rw [if_pos c1]
    unfold bfX11_courtBy_24 bfX11_courtBy_51
    exact Or.inl rfl
  · rw [if_neg c1]
    by_cases c2 : fX0_latestNews rc rn rs t = cn
    · rw [if_pos c2]
      unfold bfX11_courtBy_51
      exact Or.inr ⟨rfl, rfl⟩
    · rw [if_neg c2]
      unfold bfX11_courtBy_24 bfX11_courtBy_51
      exact Or.inl rfl
theorem t3_ct {F L M : Nat} {ts ts' : Int32} {al al' : Nat → Int32} {tm tf tl : Int32} {f g s : Nat → Int32} (h : T3 F L M ts al tm tf tl f g s) (h2 : ts' = 0 ∨ (ts' = ts ∧ al' = al)) : T3 F L M ts' al' tm tf tl f g s := by
  rcases h2 with q | ⟨q1, q2⟩
  · exact Or.inl q
  · rw [q1, q2]
    exact h
theorem ok_of {vx : Nat → Int32} {fx : Nat → Nat → Int32} {mi : Nat → Int32} {fm : Nat → Nat → Int32} (hM : MIp mi fm) (h : REL3 vx fx mi fm) (h3 : ¬ mi 3 = 0) (t : Int32) : (aJ vx fx t).1 0 0 = true := by
  obtain ⟨_, _, hW, _⟩ := ad_of hM h h3
  exact jd_00 (n := 0) _ (fun x hx => (hW.2.2 x (lin_mem hx).1).2.2.1)
theorem tb_TL {vx : Nat → Int32} {fx : Nat → Nat → Int32} {gx : Nat → Nat → Int64} {mi : Nat → Int32} {fm : Nat → Nat → Int32} (hM : MIp mi fm) (h : REL3 vx fx mi fm) (hT : TIx vx fx) (h3 : ¬ mi 3 = 0) {t : Int32} {o : Q20} (ho : o = fX11_tallyBy (vx 1) (vx 2) (vx 3) (vx 44) (vx 45) (fx 3) (fx 4) (gx 0) (fx 5) (vx 46) (vx 47) (vx 48) (fx 6) (fx 7) (vx 54) (vx 55) (vx 56) (fx 13) (fx 14) (fx 15) (vx 11) (vx 12) (vx 13) (vx 15) (vx 16) (vx 17) (vx 19) (fx 22) (fx 23) (fx 24) (fx 25) (fx 26) (fx 27) (fx 28) (fx 29) t) : TL (aF vx) (aL vx) (aM vx) (aJ vx fx t).1 o.2.2.2.2.2.2.2.2.1 o.2.2.2.2.2.2.2.2.2.1 o.2.2.2.2.2.2.2.2.2.2.1 o.2.2.2.2.2.2.2.2.2.2.2.2.2.2.2.2.2.1 o.2.2.2.2.2.2.2.2.2.2.2.2.2.2.2.2.2.2.1 o.2.2.2.2.2.2.2.2.2.2.2.2.2.2.2.2.2.2.2 ∧ T3 (aF vx) (aL vx) (aM vx) o.2.2.1 o.2.2.2.2.2.2.2.2.2.2.2.2.2.2.2.1 o.2.2.2.2.2.2.2.2.1 o.2.2.2.2.2.2.2.2.2.1 o.2.2.2.2.2.2.2.2.2.2.1 o.2.2.2.2.2.2.2.2.2.2.2.2.2.2.2.2.2.1 o.2.2.2.2.2.2.2.2.2.2.2.2.2.2.2.2.2.2.1 o.2.2.2.2.2.2.2.2.2.2.2.2.2.2.2.2.2.2.2 := by
  have h00 := ok_of hM h h3 t
  obtain ⟨_, ⟨b1, b2, b3, b4, b5, b6, b7, b8⟩, _⟩ := ad_of hM h h3
  unfold fX11_tallyBy bfX11_tallyBy_29 at ho
  obtain ⟨o1, e1, ho⟩ := cal_out ho
  obtain ⟨hCT, _⟩ := cq_of hM h h3 t e1
  have k := t3_ct hT (ct_ts e1)
  have hA : fxA o1.2.2.2.2.2.2.2.2.2.2.2.2.1 (aM vx) (aJ vx fx t).1 := hCT.2.2.2.2.2.2.2.2.1
  have m1 : o1.2.2.2.2.2.1 = nI (aM vx) := hCT.2.2.1
  have m2 : o1.2.2.2.2.2.2.1 = nI (aF vx) := hCT.2.2.2.1
  have m3 : o1.2.2.2.2.2.2.2.1 = nI (aL vx) := hCT.2.2.2.2.1
  by_cases c : o1.2.2.1 = 0
  · rw [if_pos c] at ho
    obtain ⟨o2, e2, ho⟩ := cal_out ho
    rw [m1, m2, m3] at e2
    have key : ∀ ok : Nat → Nat → Bool, ok 0 0 = true → fxA o1.2.2.2.2.2.2.2.2.2.2.2.2.1 (aM vx) ok → TL (aF vx) (aL vx) (aM vx) ok o2.1 o2.2.1 o2.2.2.1 o2.2.2.2.1 o2.2.2.2.2.1 o2.2.2.2.2.2 := by
      intro ok q1 q2
      obtain ⟨f', g', s', e3, e4⟩ := tl_fill b3 b5 b4 b6 (fx 13) (fx 14) (fx 15) q1 q2 b2
      rw [e3] at e2
      subst e2
      exact e4
    subst ho
    exact ⟨key _ h00 hA, Or.inr key⟩
  · rw [if_neg c] at ho
    subst ho
    rcases k with k | k
    · exact absurd k c
    · exact ⟨k _ h00 hA, Or.inr k⟩
theorem rf_of {vx : Nat → Int32} {fx : Nat → Nat → Int32} {mi : Nat → Int32} {fm : Nat → Nat → Int32} (hM : MIp mi fm) (h : REL3 vx fx mi fm) (h3 : ¬ mi 3 = 0) {t rmn : Int32} {must least pin ve row : Nat → Int32} (g : RTx vx fx t 0 rmn must least pin ve row) : upd (upd mi 37 0) 41 rmn 0 = nI (aM vx) ∧ upd (upd mi 37 0) 41 rmn 1 = nI (aF vx) ∧ upd (upd mi 37 0) 41 rmn 2 = nI (aL vx) ∧ upd (upd mi 37 0) 41 rmn 37 = 0 ∧ rOK (aM vx) (aJ vx fx t).1 must least ∧ pinF pin := by
  obtain ⟨k0, k1, k2, _⟩ := rd_of hM h h3
  exact ⟨k0, k1, k2, rfl, g.2.2.1, g.2.2.2.1⟩
theorem bh_000 {F L M : Nat} {ok : Nat → Nat → Bool} : bh F L M ok 0 0 0 = wy F L ok M 0 0 0 := by
  have e : rho F 0 = 0 := by
    unfold rho
    exact if_pos (Nat.zero_le _)
  unfold bh
  rw [bf, if_pos (by decide), e]
  rfl
theorem dy_in {m : Nat} (hm : m ≤ 24) (d : Int32) : (∃ a : Nat, a ≤ m ∧ d = nI (29 * m + a)) ∨ (¬ (29 * (m : Int) ≤ d.toInt ∧ d.toInt ≤ 30 * (m : Int)) ∧ ∀ a : Nat, a ≤ m → ¬ d = nI (29 * m + a)) := by
  by_cases c : 29 * (m : Int) ≤ d.toInt ∧ d.toInt ≤ 30 * (m : Int)
  · obtain ⟨q1, q2⟩ := clN (x := d) (by omega)
    refine Or.inl ⟨d.toNatClampNeg - 29 * m, by omega, ?_⟩
    rw [show 29 * m + (d.toNatClampNeg - 29 * m) = d.toNatClampNeg by omega]
    exact q1
  · refine Or.inr ⟨c, fun a ha q => c ?_⟩
    rw [q, nI_toInt (by omega)]
    omega
theorem od_eq {m : Nat} {s : Nat → Int32} (hm : m ≤ 24) {a : Nat} (ha : a ≤ m) : fX9_onDay s (nI m) (nI (29 * m + a)) = s (tri m + a) := by
  have ht := tri_le (m := m) (by omega)
  have e : nI (29 * m + a) - nI (29 * m) = nI a := by
    rw [pz_nsub (by omega) (by omega), show 29 * m + a - 29 * m = a by omega]
  unfold fX9_onDay bfX9_onDay_30
  rw [i29, e, if_neg (nI_pos (by omega)), if_pos (nI_le ha (by omega)), cal_b, pj_cell (by omega) (by omega), nI_clamp (by omega)]
theorem od_out {m : Nat} {s : Nat → Int32} {d : Int32} (hm : m ≤ 24) (h : ∀ a : Nat, a ≤ m → ¬ d = nI (29 * m + a)) : fX9_onDay s (nI m) d = 0 := by
  unfold fX9_onDay bfX9_onDay_16 bfX9_onDay_30
  rw [i29]
  by_cases c1 : d - nI (29 * m) < 0
  · rw [if_pos c1]
  · rw [if_neg c1]
    by_cases c2 : d - nI (29 * m) ≤ nI m
    · exfalso
      obtain ⟨j, hj, e⟩ := nI_of c1
      rw [e] at c2
      have c3 := (nI_leI hj (by omega)).1 c2
      refine h j c3 ?_
      rw [Nat.add_comm, ← nI_add, ← e, Int32.sub_add_cancel]
    · rw [if_neg c2]
theorem bo_eq {F L M m a : Nat} (hF1 : 1 ≤ F) (hL1 : 1 ≤ L) (hF : F ≤ 5) (hL : L ≤ 5) {ok : Nat → Nat → Bool} {mi must least pin ways : Nat → Int32} (h0 : ok 0 0 = true) (hM : M ≤ 24) (k0 : mi 0 = nI M) (k1 : mi 1 = nI F) (k2 : mi 2 = nI L) (k37 : mi 37 = 0) (hO : rOK M ok must least) (hp : pinF pin) (hm : m ≤ M) (ha : a ≤ m) : ∃ ways' : Nat → Int32, fX12_beginsOn mi must least pin ways (nI m) (nI (29 * m + a)) = (nI (stN F L M ok m a), pin, ways') := by
  obtain ⟨w, e⟩ := cw_1 (ways := ways) hF1 hL1 hF hL h0 hM k0 k1 k2 k37 hO hp hm ha
  unfold fX12_beginsOn
  rw [cal_b, e]
  exact ⟨w, rfl⟩
theorem bo_out {mi must least pin ways : Nat → Int32} {m : Nat} {d : Int32} (hm : m ≤ 24) (h : ¬ (29 * (m : Int) ≤ d.toInt ∧ d.toInt ≤ 30 * (m : Int))) : fX12_beginsOn mi must least pin ways (nI m) d = (0, pin, ways) := by
  unfold fX12_beginsOn
  rw [cal_b, cw_out hm h]
theorem a4_ways {vx : Nat → Int32} {fx : Nat → Nat → Int32} {gx : Nat → Nat → Int64} {mi : Nat → Int32} {fm : Nat → Nat → Int32} (hM : MIp mi fm) (h : REL3 vx fx mi fm) (hT : TIx vx fx) {r r2 : Int32} {v : Nat → Int32} {f : Nat → Nat → Int32} {g : Nat → Nat → Int64} {mi2 : Nat → Int32} {fm2 : Nat → Nat → Int32} {p1 : Int32} (hx : (r, v, f, g) = xs_ways vx fx gx p1) (hm : (r2, mi2, fm2) = ms_ways mi fm p1) : r = r2 := by
  obtain ⟨O, hO⟩ : ∃ O, O = fX11_ways (vx 1) (vx 2) (vx 3) (vx 44) (vx 45) (fx 3) (fx 4) (gx 0) (fx 5) (vx 46) (vx 47) (vx 48) (fx 6) (fx 7) (vx 54) (vx 55) (vx 56) (fx 13) (fx 14) (fx 15) (vx 11) (vx 12) (vx 13) (vx 15) (vx 16) (vx 17) (vx 19) (fx 22) (fx 23) (fx 24) (fx 25) (fx 26) (fx 27) (fx 28) (fx 29) p1 := ⟨_, rfl⟩
  obtain ⟨U, hU⟩ : ∃ U, U = fX12_ways mi (fm 14) (fm 15) (fm 16) (fm 17) (fm 18) (fm 19) (fm 4) (fm 7) (fm 2) (fm 5) (fm 6) (fm 3) (fm 0) (fm 1) p1 := ⟨_, rfl⟩
  have hr : r = O.1 := by
    rw [hO]
    exact congrArg (fun o => o.1) hx
  have hr2 : r2 = U.1 := by
    rw [hU]
    exact congrArg (fun o => o.1) hm
  have hfin : ∀ s : Int32, O.1 = s → U.1 = s → r = r2 := fun s a b => hr.trans (a.trans (b.symm.trans hr2.symm))
  unfold fX11_ways at hO
  unfold fX12_ways at hU
  try unfold bfX11_ways_21 at hO
  obtain ⟨o1, e1, hO⟩ := cal_out hO
  obtain ⟨u1, f1, hU⟩ := cal_out hU
  obtain ⟨a1, c1⟩ := tm_of h p1
  rw [a1, ← f1] at e1
  rw [← f1] at c1
  rcases c1 with c1 | ⟨c1, n3, _, _⟩
  · rw [if_pos (e1.trans c1)] at hO
    rw [if_pos c1] at hU
    exact hfin (-2) (by rw [hO]) (by rw [hU])
  rw [if_neg (by rw [e1, c1]; decide)] at hO
  rw [if_neg (by rw [c1]; decide)] at hU
  obtain ⟨o2, e2, hO⟩ := cal_out hO
  obtain ⟨hTL, _⟩ := tb_TL hM h hT n3 e2
  obtain ⟨o3, e3, hO⟩ := cal_out hO
  obtain ⟨u2, f2, hU⟩ := cal_out hU
  obtain ⟨must, least, pin, ways, ve, row, rmn, g1, g2⟩ := qr_of hM h n3 mi (fun _ _ => rfl) ⟨rfl, rfl, rfl⟩ (fm 14) (fm 15) (fm 16) (fm 17) (fm 18) (fm 19) p1
  rw [g1] at f2
  subst f2
  dsimp only at hU
  obtain ⟨k0, k1, k2, k37, hRO, hPF⟩ := rf_of hM h n3 g2
  obtain ⟨_, ⟨b1_, bM, bF1, bF5, bL1, bL5, _, _⟩, _⟩ := ad_of hM h n3
  have h00 := ok_of hM h n3 p1
  obtain ⟨u3, f3, hU⟩ := cal_out hU
  have c1 := (pc_counts (mi := upd (upd mi 37 0) 41 rmn) (must := must) (least := least) (pin := pin) (ways := ways) (ok := (aJ vx fx p1).1) k0 bM k1 k2 bF5 bL5 (fun m a hm ha => by rw [rOK_open bM hRO hPF m a hm ha]; exact ⟨fun q => ⟨k37, q⟩, fun q => q.2⟩)).1
  refine hfin (nI (wy (aF vx) (aL vx) (aJ vx fx p1).1 (aM vx) 0 0 0)) ?_ ?_
  · rw [hO]
    show o3 = _
    rw [e3, ← bh_000, ← hTL.2.2.1 0 0 0 (Nat.zero_le _) (Nat.le_refl _) (by omega), sp_000]
    rfl
  · rw [hU]
    show u3.1 = _
    rw [f3]
    exact c1
theorem a4_could {vx : Nat → Int32} {fx : Nat → Nat → Int32} {gx : Nat → Nat → Int64} {mi : Nat → Int32} {fm : Nat → Nat → Int32} (hM : MIp mi fm) (h : REL3 vx fx mi fm) (hT : TIx vx fx) {r r2 : Int32} {v : Nat → Int32} {f : Nat → Nat → Int32} {g : Nat → Nat → Int64} {mi2 : Nat → Int32} {fm2 : Nat → Nat → Int32} {p1 p2 p3 : Int32} (hx : (r, v, f, g) = xs_could vx fx gx p1 p2 p3) (hm : (r2, mi2, fm2) = ms_could mi fm p1 p2 p3) : r = r2 := by
  obtain ⟨O, hO⟩ : ∃ O, O = fX11_could (vx 1) (vx 2) (vx 3) (vx 44) (vx 45) (fx 3) (fx 4) (gx 0) (fx 5) (vx 46) (vx 47) (vx 48) (fx 6) (fx 7) (vx 54) (vx 55) (vx 56) (fx 13) (fx 14) (fx 15) (vx 11) (vx 12) (vx 13) (vx 15) (vx 16) (vx 17) (vx 19) (fx 22) (fx 23) (fx 24) (fx 25) (fx 26) (fx 27) (fx 28) (fx 29) p1 p2 p3 := ⟨_, rfl⟩
  obtain ⟨U, hU⟩ : ∃ U, U = fX12_could mi (fm 14) (fm 15) (fm 16) (fm 17) (fm 18) (fm 19) (fm 4) (fm 7) (fm 2) (fm 5) (fm 6) (fm 3) (fm 0) (fm 1) p1 p2 p3 := ⟨_, rfl⟩
  have hr : r = O.1 := by
    rw [hO]
    exact congrArg (fun o => o.1) hx
  have hr2 : r2 = U.1 := by
    rw [hU]
    exact congrArg (fun o => o.1) hm
  have hfin : ∀ s : Int32, O.1 = s → U.1 = s → r = r2 := fun s a b => hr.trans (a.trans (b.symm.trans hr2.symm))
  unfold fX11_could at hO
  unfold fX12_could at hU
  try unfold bfX11_could_24 at hO
  try unfold bfX12_could_16 at hU
  try unfold bfX12_could_38 at hU
  obtain ⟨o1, e1, hO⟩ := cal_out hO
  obtain ⟨u1, f1, hU⟩ := cal_out hU
  obtain ⟨a1, c1⟩ := tm_of h p1
  rw [a1, ← f1] at e1
  rw [← f1] at c1
  rcases c1 with c1 | ⟨c1, n3, _, _⟩
  · rw [if_pos (e1.trans c1)] at hO
    rw [if_pos c1] at hU
    exact hfin (-2) (by rw [hO]) (by rw [hU])
  rw [if_neg (by rw [e1, c1]; decide)] at hO
  rw [if_neg (by rw [c1]; decide)] at hU
  obtain ⟨o2, e2, hO⟩ := cal_out hO
  obtain ⟨u2, f2, hU⟩ := cal_out hU
  obtain ⟨a2, c2⟩ := bg_of h n3 p2
  rw [a2, ← f2] at e2
  rw [← f2] at c2
  rcases c2 with c2 | ⟨c2, b4, b5⟩
  · rw [if_pos (e2.trans c2)] at hO
    rw [if_pos c2] at hU
    exact hfin (-2) (by rw [hO]) (by rw [hU])
  rw [if_neg (by rw [e2, c2]; decide)] at hO
  rw [if_neg (by rw [c2]; decide)] at hU
  obtain ⟨o3, e3, hO⟩ := cal_out hO
  obtain ⟨hTL, _⟩ := tb_TL hM h hT n3 e3
  obtain ⟨o4, e4, hO⟩ := cal_out hO
  obtain ⟨u3, f3, hU⟩ := cal_out hU
  obtain ⟨must, least, pin, ways, ve, row, rmn, g1, g2⟩ := qr_of hM h n3 mi (fun _ _ => rfl) ⟨rfl, rfl, rfl⟩ (fm 14) (fm 15) (fm 16) (fm 17) (fm 18) (fm 19) p1
  rw [g1] at f3
  subst f3
  dsimp only at hU
  obtain ⟨k0, k1, k2, k37, hRO, hPF⟩ := rf_of hM h n3 g2
  obtain ⟨_, ⟨b1_, bM, bF1, bF5, bL1, bL5, _, _⟩, _⟩ := ad_of hM h n3
  have h00 := ok_of hM h n3 p1
  rcases dy_in (m := p2.toNatClampNeg) (by omega) p3 with ⟨a, ha, hd⟩ | ⟨q1, q2⟩
  · rw [if_pos (by rw [hd]; exact nI_pos' (by omega))] at hU
    obtain ⟨u4, f4, hU⟩ := cal_out hU
    obtain ⟨ways2, b9⟩ := bo_eq (mi := upd (upd mi 37 0) 41 rmn) (ways := ways) bF1 bL1 bF5 bL5 h00 bM k0 k1 k2 k37 hRO hPF b4 ha
    rw [b5, hd, b9] at f4
    refine hfin (nI (stN (aF vx) (aL vx) (aM vx) (aJ vx fx p1).1 p2.toNatClampNeg a)) ?_ ?_
    · rw [hO]
      show o4 = _
      rw [e4, b5, nI_clamp (by omega), hd, od_eq (by omega) ha]
      exact hTL.2.2.2 _ _ b4 ha
    · rw [hU, f4]
  · refine hfin 0 ?_ ?_
    · rw [hO]
      show o4 = _
      rw [e4, b5]
      exact od_out (by omega) (by
        intro a ha
        exact q2 a ha)
    · split at hU
      · obtain ⟨u4, f4, hU⟩ := cal_out hU
        rw [b5, bo_out (by omega) q1] at f4
        rw [hU, f4]
      · rw [hU]
def spV (c : Nat → Nat) (m : Nat) (w : Bool) (d : Int32) : Nat → Nat → Int32
  | 0, _ => d
  | k + 1, i => if c (if w = true then m - i else i) = 0 then spV c m w d k (i + 1) else nI (29 * m + (if w = true then m - i else i))
theorem spV_def {c : Nat → Nat} {m : Nat} {w : Bool} (d d' : Int32) : ∀ k i : Nat, (∃ j, i ≤ j ∧ j < i + k ∧ ¬ c (if w = true then m - j else j) = 0) → spV c m w d k i = spV c m w d' k i := by
  intro k
  induction k with
  | zero =>
    rintro i ⟨j, h1, h2, _⟩
    omega
  | succ k ih =>
    rintro i ⟨j, h1, h2, h3⟩
    rw [spV, spV]
    by_cases q : c (if w = true then m - i else i) = 0
    · rw [if_pos q, if_pos q]
      refine ih (i + 1) ⟨j, ?_, by omega, h3⟩
      rcases Nat.eq_or_lt_of_le h1 with e | e
      · rw [← e] at h3
        exact absurd q h3
      · omega
    · rw [if_neg q, if_neg q]
theorem st_sum {F L M m : Nat} (hF1 : 1 ≤ F) (hL1 : 1 ≤ L) (hF : F ≤ 5) (hL : L ≤ 5) {ok : Nat → Nat → Bool} (h0 : ok 0 0 = true) (hm : m ≤ M) : wy F L ok M 0 0 0 = sm (fun a => stN F L M ok m a) (m + 1) := by
  rw [wy_cut (op := ok) (ok := ok) hF1 hL1 hF hL h0 (fun _ _ _ => rfl) (fun _ _ q => q) hm m (Nat.le_refl _)]
  rfl
theorem st_le {F L M m a : Nat} (hF1 : 1 ≤ F) (hL1 : 1 ≤ L) (hF : F ≤ 5) (hL : L ≤ 5) {ok : Nat → Nat → Bool} (h0 : ok 0 0 = true) (hm : m ≤ M) (hM : M ≤ 24) (ha : a ≤ m) : stN F L M ok m a ≤ 16777216 := by
  have h1 := sm_le (f := fun a => stN F L M ok m a) (m + 1) a (by omega)
  rw [← st_sum hF1 hL1 hF hL h0 hm] at h1
  have h2 := wy_le F L ok M 0 0 0
  have h3 : 2 ^ M ≤ 2 ^ 24 := Nat.pow_le_pow_right (by omega) hM
  have h4 : (2 : Nat) ^ 24 = 16777216 := by decide
  have h5 : stN F L M ok m a ≤ wy F L ok M 0 0 0 := h1
  omega
theorem st_some {F L M m : Nat} (hF1 : 1 ≤ F) (hL1 : 1 ≤ L) (hF : F ≤ 5) (hL : L ≤ 5) {ok : Nat → Nat → Bool} (h0 : ok 0 0 = true) (hm : m ≤ M) (hp : 0 < wy F L ok M 0 0 0) (w : Bool) : ∃ j, 0 ≤ j ∧ j < 0 + (m + 1) ∧ ¬ stN F L M ok m (if w = true then m - j else j) = 0 := by
  rw [st_sum hF1 hL1 hF hL h0 hm] at hp
  obtain ⟨a, ha, hb⟩ := sm_pos _ hp
  cases w with
  | false => exact ⟨a, by omega, by omega, by show ¬ stN F L M ok m a = 0; omega⟩
  | true => exact ⟨m - a, by omega, by omega, by show ¬ stN F L M ok m (m - (m - a)) = 0; rw [show m - (m - a) = a by omega]; omega⟩
theorem pj_day (m a : Nat) : fX11_dayOf (nI m) (nI a) = nI (29 * m + a) := by
  unfold fX11_dayOf
  rw [i29, nI_add]
theorem bd_s (s : Nat → Int32) (p0 p1 : Int32) (z : Nat) (v : Int32) : lfX9_bound s p0 p1 (z + 1) v = dfX9_bound_2 s p0 p1 (lfX9_bound s p0 p1 z) v := rfl
theorem bd_L {m : Nat} {s : Nat → Int32} {c : Nat → Nat} (hm : m ≤ 24) (hs : ∀ a, a ≤ m → s (tri m + a) = nI (c a)) (hc : ∀ a, a ≤ m → c a ≤ 16777216) (w : Bool) : ∀ k i z : Nat, i + k = m + 1 → k < z → lfX9_bound s (nI m) (if w = true then (1 : Int32) else (0 : Int32)) z (nI i) = spV c m w (-1) k i := by
  have ht := tri_le (m := m) (by omega)
  intro k
  induction k with
  | zero =>
    intro i z hi hz
    obtain ⟨z, rfl⟩ : ∃ y, z = y + 1 := ⟨z - 1, by omega⟩
    rw [bd_s]
    unfold dfX9_bound_2
    rw [if_pos (nI_lt (by omega) (by omega)), spV]
  | succ k ih =>
    intro i z hi hz
    obtain ⟨z, rfl⟩ : ∃ y, z = y + 1 := ⟨z - 1, by omega⟩
    have q := ih (i + 1) z (by omega) (by omega)
    rw [bd_s]
    unfold dfX9_bound_2 bfX9_bound_18
    rw [if_neg (nI_nlt (by omega) (by omega)), spV]
    have go : ∀ j : Nat, j ≤ m → (cal (fun o1 => if s o1.toNatClampNeg ≤ (0 : Int32) then lfX9_bound s (nI m) (if w = true then (1 : Int32) else (0 : Int32)) z (nI i + (1 : Int32)) else cal (fun o2 => o2) (fX11_dayOf (nI m) (nI j))) (fX11_cell (nI m) (nI j))) = if c j = 0 then spV c m w (-1) k (i + 1) else nI (29 * m + j) := by
      intro j hj
      rw [cal_b, pj_cell (by omega) (by omega), nI_clamp (by omega), hs j hj, nI_1]
      have := hc j hj
      by_cases e : c j = 0
      · rw [if_pos e, e, nI_0, if_pos (Int32.le_refl _), q]
      · rw [if_neg e, if_neg (nI_nle (by omega) (by omega)), cal_b, pj_day]
    cases w with
    | false =>
      rw [if_pos (show (if false = true then (1 : Int32) else (0 : Int32)) = 0 from rfl)]
      exact go i (by omega)
    | true =>
      rw [if_neg (show ¬ (if true = true then (1 : Int32) else (0 : Int32)) = 0 from by decide), pz_nsub (by omega) (by omega)]
      exact go (m - i) (by omega)
theorem sq_s (mi a b c d : Nat → Int32) (p1 p2 : Int32) (z : Nat) (v : Int32) (x y : Nat → Int32) : lfX12_spanOf mi a b c d p1 p2 (z + 1) v x y = dfX12_spanOf_2 mi a b c d p1 p2 (lfX12_spanOf mi a b c d p1 p2 z) v x y := rfl
theorem sq_L {F L M m : Nat} (hF1 : 1 ≤ F) (hL1 : 1 ≤ L) (hF : F ≤ 5) (hL : L ≤ 5) {ok : Nat → Nat → Bool} {mi must least pin0 ways0 pin : Nat → Int32} (h0 : ok 0 0 = true) (hM : M ≤ 24) (k0 : mi 0 = nI M) (k1 : mi 1 = nI F) (k2 : mi 2 = nI L) (k37 : mi 37 = 0) (hO : rOK M ok must least) (hp : pinF pin) (hm : m ≤ M) (w : Bool) : ∀ (k i z : Nat) (ways : Nat → Int32), i + k = m + 1 → k < z → ∃ ways' : Nat → Int32, lfX12_spanOf mi must least pin0 ways0 (nI m) (if w = true then (1 : Int32) else (0 : Int32)) z (nI i) pin ways = (spV (stN F L M ok m) m w (-2) k i, pin, ways') := by
  intro k
  induction k with
  | zero =>
    intro i z ways hi hz
    obtain ⟨z, rfl⟩ : ∃ y, z = y + 1 := ⟨z - 1, by omega⟩
    rw [sq_s]
    unfold dfX12_spanOf_2
    rw [if_pos (nI_lt (by omega) (by omega)), spV]
    exact ⟨_, rfl⟩
  | succ k ih =>
    intro i z ways hi hz
    obtain ⟨z, rfl⟩ : ∃ y, z = y + 1 := ⟨z - 1, by omega⟩
    rw [sq_s]
    unfold dfX12_spanOf_2 bfX12_spanOf_22
    rw [if_neg (nI_nlt (by omega) (by omega)), spV]
    have go : ∀ j : Nat, j ≤ m → ∃ ways' : Nat → Int32, (cal (fun o1 => if o1.1 ≤ (0 : Int32) then lfX12_spanOf mi must least pin0 ways0 (nI m) (if w = true then (1 : Int32) else (0 : Int32)) z (nI i + (1 : Int32)) o1.2.1 o1.2.2 else ((29 : Int32) * nI m + nI j, o1.2.1, o1.2.2)) (fX12_beginsOn mi must least pin ways (nI m) ((29 : Int32) * nI m + nI j))) = ((if stN F L M ok m j = 0 then spV (stN F L M ok m) m w (-2) k (i + 1) else nI (29 * m + j)), pin, ways') := by
      intro j hj
      obtain ⟨ways2, e1⟩ := bo_eq (mi := mi) (ways := ways) hF1 hL1 hF hL h0 hM k0 k1 k2 k37 hO hp hm hj
      have := st_le hF1 hL1 hF hL (ok := ok) h0 hm hM hj
      rw [i29, nI_add, cal_b, e1]
      dsimp only
      by_cases e : stN F L M ok m j = 0
      · rw [if_pos e, e, nI_0, if_pos (Int32.le_refl _), nI_1]
        exact ih (i + 1) z ways2 (by omega) (by omega)
      · rw [if_neg e, if_neg (nI_nle (by omega) (by omega))]
        exact ⟨_, rfl⟩
    cases w with
    | false =>
      rw [if_pos (show (if false = true then (1 : Int32) else (0 : Int32)) = 0 from rfl)]
      exact go i (by omega)
    | true =>
      rw [if_neg (show ¬ (if true = true then (1 : Int32) else (0 : Int32)) = 0 from by decide), pz_nsub (by omega) (by omega)]
      exact go (m - i) (by omega)
theorem bd_eq {F L M m : Nat} {tm tf tl : Int32} {f g s : Nat → Int32} (hF1 : 1 ≤ F) (hL1 : 1 ≤ L) (hF : F ≤ 5) (hL : L ≤ 5) {ok : Nat → Nat → Bool} {mi must least pin ways : Nat → Int32} (h0 : ok 0 0 = true) (hM : M ≤ 24) (k0 : mi 0 = nI M) (k1 : mi 1 = nI F) (k2 : mi 2 = nI L) (k37 : mi 37 = 0) (hO : rOK M ok must least) (hp : pinF pin) (hm : m ≤ M) (hT : TL F L M ok tm tf tl f g s) (hpos : 0 < wy F L ok M 0 0 0) (w : Bool) : ∃ ways' : Nat → Int32, fX12_spanOf mi must least pin ways (nI m) (if w = true then (1 : Int32) else (0 : Int32)) = (fX9_bound s (nI m) (if w = true then (1 : Int32) else (0 : Int32)), pin, ways') := by
  have e1 := bd_L (m := m) (s := s) (c := stN F L M ok m) (by omega) (fun a ha => hT.2.2.2 m a hm ha) (fun a ha => st_le hF1 hL1 hF hL h0 hm hM ha) w (m + 1) 0 1000000000 (by omega) (by omega)
  obtain ⟨ways', e2⟩ := sq_L (pin0 := pin) (ways0 := ways) hF1 hL1 hF hL h0 hM k0 k1 k2 k37 hO hp hm w (m + 1) 0 1000000000 ways (by omega) (by omega)
  rw [spV_def (-2) (-1) (m + 1) 0 (st_some hF1 hL1 hF hL h0 hm hpos w), ← e1] at e2
  exact ⟨ways', e2⟩
theorem ei_of (p : Int32) : fX11_isEither p = fX12_in p.toInt64 (0 : Int64) (1 : Int64) ∧ (fX12_in p.toInt64 (0 : Int64) (1 : Int64) = 0 ∨ (fX12_in p.toInt64 (0 : Int64) (1 : Int64) = 1 ∧ (p = 0 ∨ p = 1))) := by
  rw [dr_in, show (0 : Int64).toInt = 0 by decide, show (1 : Int64).toInt = 1 by decide]
  by_cases c0 : p = 0
  · subst c0
    exact ⟨by decide, Or.inr ⟨by decide, Or.inl rfl⟩⟩
  · by_cases c1 : p = 1
    · subst c1
      exact ⟨by decide, Or.inr ⟨by decide, Or.inr rfl⟩⟩
    · have n0 : ¬ p.toInt = 0 := fun q => c0 (Int32.toInt_inj.mp (by rw [z32]; exact q))
      have n1 : ¬ p.toInt = 1 := fun q => c1 (Int32.toInt_inj.mp (by rw [show (1 : Int32).toInt = 1 by decide]; exact q))
      rw [if_neg (by omega)]
      refine ⟨?_, Or.inl rfl⟩
      unfold fX11_isEither bfX11_isEither_14
      rw [if_neg c0, if_neg c1]
theorem ja_pos {vx : Nat → Int32} {fx : Nat → Nat → Int32} {mi : Nat → Int32} {fm : Nat → Nat → Int32} (hM : MIp mi fm) (h : REL3 vx fx mi fm) (h3 : ¬ mi 3 = 0) (t : Int32) : 0 < wy (aF vx) (aL vx) (aJ vx fx t).1 (aM vx) 0 0 0 := by
  obtain ⟨_, ⟨b1, b2, b3, b4, b5, b6, b7, b8⟩, _⟩ := ad_of hM h h3
  exact jd_pos (M := aM vx) (hm := vx 15) (ms := vx 16) (mp := vx 17) (kd := nf (fx 25)) (mo := nf (fx 26)) (dy := nf (fx 27)) b3 b5 (aQL vx fx t)
theorem a4_span {vx : Nat → Int32} {fx : Nat → Nat → Int32} {gx : Nat → Nat → Int64} {mi : Nat → Int32} {fm : Nat → Nat → Int32} (hM : MIp mi fm) (h : REL3 vx fx mi fm) (hT : TIx vx fx) {r r2 : Int32} {v : Nat → Int32} {f : Nat → Nat → Int32} {g : Nat → Nat → Int64} {mi2 : Nat → Int32} {fm2 : Nat → Nat → Int32} {p1 p2 p3 : Int32} (hx : (r, v, f, g) = xs_span vx fx gx p1 p2 p3) (hm : (r2, mi2, fm2) = ms_span mi fm p1 p2 p3) : r = r2 := by
  obtain ⟨O, hO⟩ : ∃ O, O = fX11_span (vx 1) (vx 2) (vx 3) (vx 44) (vx 45) (fx 3) (fx 4) (gx 0) (fx 5) (vx 46) (vx 47) (vx 48) (fx 6) (fx 7) (vx 54) (vx 55) (vx 56) (fx 13) (fx 14) (fx 15) (vx 11) (vx 12) (vx 13) (vx 15) (vx 16) (vx 17) (vx 19) (fx 22) (fx 23) (fx 24) (fx 25) (fx 26) (fx 27) (fx 28) (fx 29) p1 p2 p3 := ⟨_, rfl⟩
  obtain ⟨U, hU⟩ : ∃ U, U = fX12_span mi (fm 14) (fm 15) (fm 16) (fm 17) (fm 18) (fm 19) (fm 4) (fm 7) (fm 2) (fm 5) (fm 6) (fm 3) (fm 0) (fm 1) p1 p2 p3 := ⟨_, rfl⟩
  have hr : r = O.1 := by
    rw [hO]
    exact congrArg (fun o => o.1) hx
  have hr2 : r2 = U.1 := by
    rw [hU]
    exact congrArg (fun o => o.1) hm
  have hfin : ∀ s : Int32, O.1 = s → U.1 = s → r = r2 := fun s a b => hr.trans (a.trans (b.symm.trans hr2.symm))
  unfold fX11_span at hO
  unfold fX12_span at hU
  try unfold bfX11_span_31 at hO
  try unfold bfX11_span_50 at hO
  try unfold bfX12_span_26 at hU
  obtain ⟨o1, e1, hO⟩ := cal_out hO
  obtain ⟨u1, f1, hU⟩ := cal_out hU
  obtain ⟨a1, c1⟩ := tm_of h p1
  rw [a1, ← f1] at e1
  rw [← f1] at c1
  rcases c1 with c1 | ⟨c1, n3, _, _⟩
  · rw [if_pos (e1.trans c1)] at hO
    rw [if_pos c1] at hU
    exact hfin (-2) (by rw [hO]) (by rw [hU])
  rw [if_neg (by rw [e1, c1]; decide)] at hO
  rw [if_neg (by rw [c1]; decide)] at hU
  obtain ⟨o2, e2, hO⟩ := cal_out hO
  obtain ⟨u2, f2, hU⟩ := cal_out hU
  obtain ⟨a2, c2⟩ := bg_of h n3 p2
  rw [a2, ← f2] at e2
  rw [← f2] at c2
  rcases c2 with c2 | ⟨c2, b4, b5⟩
  · rw [if_pos (e2.trans c2)] at hO
    rw [if_pos c2] at hU
    exact hfin (-2) (by rw [hO]) (by rw [hU])
  rw [if_neg (by rw [e2, c2]; decide)] at hO
  rw [if_neg (by rw [c2]; decide)] at hU
  obtain ⟨o3, e3, hO⟩ := cal_out hO
  obtain ⟨u3, f3, hU⟩ := cal_out hU
  obtain ⟨a3, c3⟩ := ei_of p3
  rw [a3, ← f3] at e3
  rw [← f3] at c3
  rcases c3 with c3 | ⟨c3, b6⟩
  · rw [if_pos (e3.trans c3)] at hO
    rw [if_pos c3] at hU
    exact hfin (-2) (by rw [hO]) (by rw [hU])
  rw [if_neg (by rw [e3, c3]; decide)] at hO
  rw [if_neg (by rw [c3]; decide)] at hU
  obtain ⟨o4, e4, hO⟩ := cal_out hO
  obtain ⟨hTL, _⟩ := tb_TL hM h hT n3 e4
  obtain ⟨u4, f4, hU⟩ := cal_out hU
  obtain ⟨must, least, pin, ways, ve, row, rmn, g1, g2⟩ := qr_of hM h n3 mi (fun _ _ => rfl) ⟨rfl, rfl, rfl⟩ (fm 14) (fm 15) (fm 16) (fm 17) (fm 18) (fm 19) p1
  rw [g1] at f4
  subst f4
  dsimp only at hU
  obtain ⟨k0, k1, k2, k37, hRO, hPF⟩ := rf_of hM h n3 g2
  obtain ⟨_, ⟨b1_, bM, bF1, bF5, bL1, bL5, _, _⟩, _⟩ := ad_of hM h n3
  have h00 := ok_of hM h n3 p1
  obtain ⟨u5, f5, hU⟩ := cal_out hU
  have key : ∀ w : Bool, p3 = (if w = true then (1 : Int32) else (0 : Int32)) → u5.1 = fX9_bound o4.2.2.2.2.2.2.2.2.2.2.2.2.2.2.2.2.2.2.2 p2 p3 := by
    intro w hw
    obtain ⟨ways2, q⟩ := bd_eq (mi := upd (upd mi 37 0) 41 rmn) (ways := ways) bF1 bL1 bF5 bL5 h00 bM k0 k1 k2 k37 hRO hPF b4 hTL (ja_pos hM h n3 p1) w
    rw [f5, hw, b5, q]
  have hU1 : U.1 = u5.1 := by rw [hU]
  rcases b6 with b6 | b6
  · rw [if_neg (by rw [b6]; decide)] at hO
    obtain ⟨o5, e5, hO⟩ := cal_out hO
    have k := key false b6
    refine hfin o5 (by rw [hO]) ?_
    rw [hU1, k, e5, b6]
  · rw [if_pos b6] at hO
    obtain ⟨o5, e5, hO⟩ := cal_out hO
    have k := key true b6
    refine hfin o5 (by rw [hO]) ?_
    rw [hU1, k, e5, b6]
def suF (e : Nat → Bool) : Nat → Nat → Int32 → Int32
  | 0, _, v => v
  | k + 1, i, v => suF e k (i + 1) (if e i = true then v ||| ((1 : Int32) <<< (nI i &&& 31)) else v)
theorem sx_s (x_courtStands : Int32) (x_courtNews : Int32) (x_tallyStands : Int32) (c_queueLength : Int32) (c_takenBits : Int32) (fve : Nat → Int32) (fqu : Nat → Int32) (ftu : Nat → Int64) (fcb : Nat → Int32) (fmonths : Int32) (ffull : Int32) (flean : Int32) (ffal : Nat → Int32) (ffon : Nat → Int32) (t_months : Int32) (t_full : Int32) (t_lean : Int32) (fbf : Nat → Int32) (fbh : Nat → Int32) (fsa : Nat → Int32) (amonths : Int32) (afull : Int32) (alean : Int32) (ahasMoon : Int32) (amoonStart : Int32) (amoonStep : Int32) (areportCount : Int32) (p_name : Nat → Int32) (p_trust : Nat → Int32) (r_place : Nat → Int32) (r_kind : Nat → Int32) (r_month : Nat → Int32) (r_day : Nat → Int32) (r_known : Nat → Int32) (r_struck : Nat → Int32) (p1 : Int32) (z : Nat) (v3 : Int32) (v4 : Int32) (w0_12 : Int32) (w0_13 : Int32) (w0_14 : Int32) (w1_5 : Int32) (w1_6 : Int32) (w6_0 : Int32) (w6_1 : Int32) (w6_2 : Int32) (w9_3 : Int32) (w9_4 : Int32) (w9_5 : Int32) (z2 : Nat → Int32) (z3 : Nat → Int32) (z4 : Nat → Int64) (z5 : Nat → Int32) (z7 : Nat → Int32) (z8 : Nat → Int32) (z10 : Nat → Int32) (z11 : Nat → Int32) (z12 : Nat → Int32) : lfX11_sure x_courtStands x_courtNews x_tallyStands c_queueLength c_takenBits fve fqu ftu fcb fmonths ffull flean ffal ffon t_months t_full t_lean fbf fbh fsa amonths afull alean ahasMoon amoonStart amoonStep areportCount p_name p_trust r_place r_kind r_month r_day r_known r_struck p1 (z + 1) v3 v4 w0_12 w0_13 w0_14 w1_5 w1_6 w6_0 w6_1 w6_2 w9_3 w9_4 w9_5 z2 z3 z4 z5 z7 z8 z10 z11 z12 = dfX11_sure_22 x_courtStands x_courtNews x_tallyStands c_queueLength c_takenBits fve fqu ftu fcb fmonths ffull flean ffal ffon t_months t_full t_lean fbf fbh fsa amonths afull alean ahasMoon amoonStart amoonStep areportCount p_name p_trust r_place r_kind r_month r_day r_known r_struck p1 (lfX11_sure x_courtStands x_courtNews x_tallyStands c_queueLength c_takenBits fve fqu ftu fcb fmonths ffull flean ffal ffon t_months t_full t_lean fbf fbh fsa amonths afull alean ahasMoon amoonStart amoonStep areportCount p_name p_trust r_place r_kind r_month r_day r_known r_struck p1 z) v3 v4 w0_12 w0_13 w0_14 w1_5 w1_6 w6_0 w6_1 w6_2 w9_3 w9_4 w9_5 z2 z3 z4 z5 z7 z8 z10 z11 z12 := rfl
theorem sm_s2 (mi : Nat → Int32) (fm_must : Nat → Int32) (fm_least : Nat → Int32) (fm_pin : Nat → Int32) (fm_ways : Nat → Int32) (fm_verdict : Nat → Int32) (fm_row : Nat → Int32) (fm_struck : Nat → Int32) (fm_reportKnown : Nat → Int32) (fm_reportPlace : Nat → Int32) (fm_reportMonth : Nat → Int32) (fm_reportDay : Nat → Int32) (fm_reportKind : Nat → Int32) (fm_trust : Nat → Int32) (fm_letter : Nat → Int32) (p1 : Int32) (z : Nat) (v2 : Int32) (v3 : Int32) (w0_37 : Int32) (w0_41 : Int32) (z1 : Nat → Int32) (z2 : Nat → Int32) (z3 : Nat → Int32) (z4 : Nat → Int32) (z5 : Nat → Int32) (z6 : Nat → Int32) : lfX12_sure mi fm_must fm_least fm_pin fm_ways fm_verdict fm_row fm_struck fm_reportKnown fm_reportPlace fm_reportMonth fm_reportDay fm_reportKind fm_trust fm_letter p1 (z + 1) v2 v3 w0_37 w0_41 z1 z2 z3 z4 z5 z6 = dfX12_sure_20 mi fm_must fm_least fm_pin fm_ways fm_verdict fm_row fm_struck fm_reportKnown fm_reportPlace fm_reportMonth fm_reportDay fm_reportKind fm_trust fm_letter p1 (lfX12_sure mi fm_must fm_least fm_pin fm_ways fm_verdict fm_row fm_struck fm_reportKnown fm_reportPlace fm_reportMonth fm_reportDay fm_reportKind fm_trust fm_letter p1 z) v2 v3 w0_37 w0_41 z1 z2 z3 z4 z5 z6 := rfl
theorem sx_L {x_courtStands : Int32} {x_courtNews : Int32} {x_tallyStands : Int32} {c_queueLength : Int32} {c_takenBits : Int32} {fve : Nat → Int32} {fqu : Nat → Int32} {ftu : Nat → Int64} {fcb : Nat → Int32} {fmonths : Int32} {ffull : Int32} {flean : Int32} {ffal : Nat → Int32} {ffon : Nat → Int32} {t_months : Int32} {t_full : Int32} {t_lean : Int32} {fbf : Nat → Int32} {fbh : Nat → Int32} {fsa : Nat → Int32} {amonths : Int32} {afull : Int32} {alean : Int32} {ahasMoon : Int32} {amoonStart : Int32} {amoonStep : Int32} {areportCount : Int32} {p_name : Nat → Int32} {p_trust : Nat → Int32} {r_place : Nat → Int32} {r_kind : Nat → Int32} {r_month : Nat → Int32} {r_day : Nat → Int32} {r_known : Nat → Int32} {r_struck : Nat → Int32} {p1 : Int32} {w0_12 : Int32} {w0_13 : Int32} {w0_14 : Int32} {w1_5 : Int32} {w1_6 : Int32} {w6_0 : Int32} {w6_1 : Int32} {w6_2 : Int32} {w9_3 : Int32} {w9_4 : Int32} {w9_5 : Int32} {z2 : Nat → Int32} {z3 : Nat → Int32} {z4 : Nat → Int64} {z5 : Nat → Int32} {z7 : Nat → Int32} {z8 : Nat → Int32} {z10 : Nat → Int32} {z11 : Nat → Int32} {z12 : Nat → Int32} {M : Nat} {e : Nat → Bool} (hM : M ≤ 24) (hm : amonths = nI M) (he : ∀ j, j ≤ M → (e j = true ↔ fX9_bound z12 (nI j) 0 = fX9_bound z12 (nI j) 1)) : ∀ (k i z : Nat) (v3 : Int32), i + k = M + 1 → k < z → (lfX11_sure x_courtStands x_courtNews x_tallyStands c_queueLength c_takenBits fve fqu ftu fcb fmonths ffull flean ffal ffon t_months t_full t_lean fbf fbh fsa amonths afull alean ahasMoon amoonStart amoonStep areportCount p_name p_trust r_place r_kind r_month r_day r_known r_struck p1 z v3 (nI i) w0_12 w0_13 w0_14 w1_5 w1_6 w6_0 w6_1 w6_2 w9_3 w9_4 w9_5 z2 z3 z4 z5 z7 z8 z10 z11 z12).1 = suF e k i v3 := by
  intro k
  induction k with
  | zero =>
    intro i z v3 hi hz
    obtain ⟨z, rfl⟩ : ∃ y, z = y + 1 := ⟨z - 1, by omega⟩
    rw [sx_s]
    unfold dfX11_sure_22
    rw [hm, if_pos (nI_lt (by omega) (by omega)), suF]
  | succ k ih =>
    intro i z v3 hi hz
    obtain ⟨z, rfl⟩ : ∃ y, z = y + 1 := ⟨z - 1, by omega⟩
    have q := he i (by omega)
    rw [sx_s]
    unfold dfX11_sure_22 bfX11_sure_58
    rw [if_neg (by rw [hm]; exact nI_nlt (by omega) (by omega)), cal_b, cal_b, nI_1, suF]
    by_cases c : e i = true
    · rw [if_pos (q.1 c), if_pos c]
      exact ih (i + 1) z _ (by omega) (by omega)
    · rw [if_neg (fun w => c (q.2 w)), if_neg c]
      exact ih (i + 1) z _ (by omega) (by omega)
theorem sm_L2 {F L M : Nat} {tm tf tl : Int32} {f g s : Nat → Int32} (hF1 : 1 ≤ F) (hL1 : 1 ≤ L) (hF : F ≤ 5) (hL : L ≤ 5) {ok : Nat → Nat → Bool} {mi : Nat → Int32} {fm_must : Nat → Int32} {fm_least : Nat → Int32} {fm_pin : Nat → Int32} {fm_ways : Nat → Int32} {fm_verdict : Nat → Int32} {fm_row : Nat → Int32} {fm_struck : Nat → Int32} {fm_reportKnown : Nat → Int32} {fm_reportPlace : Nat → Int32} {fm_reportMonth : Nat → Int32} {fm_reportDay : Nat → Int32} {fm_reportKind : Nat → Int32} {fm_trust : Nat → Int32} {fm_letter : Nat → Int32} {p1 : Int32} {rmn : Int32} {must least pin ve row : Nat → Int32} (h0 : ok 0 0 = true) (hM : M ≤ 24) (k0 : upd (upd mi 37 0) 41 rmn 0 = nI M) (k1 : upd (upd mi 37 0) 41 rmn 1 = nI F) (k2 : upd (upd mi 37 0) 41 rmn 2 = nI L) (hO : rOK M ok must least) (hp : pinF pin) (hT : TL F L M ok tm tf tl f g s) (hpos : 0 < wy F L ok M 0 0 0) {e : Nat → Bool} (he : ∀ j, j ≤ M → (e j = true ↔ fX9_bound s (nI j) 0 = fX9_bound s (nI j) 1)) : ∀ (k i z : Nat) (v2 : Int32) (ways : Nat → Int32), i + k = M + 1 → k < z → (lfX12_sure mi fm_must fm_least fm_pin fm_ways fm_verdict fm_row fm_struck fm_reportKnown fm_reportPlace fm_reportMonth fm_reportDay fm_reportKind fm_trust fm_letter p1 z v2 (nI i) 0 rmn must least pin ways ve row).1 = suF e k i v2 := by
  intro k
  induction k with
  | zero =>
    intro i z v2 ways hi hz
    obtain ⟨z, rfl⟩ : ∃ y, z = y + 1 := ⟨z - 1, by omega⟩
    rw [sm_s2]
    unfold dfX12_sure_20
    have k0' : mi 0 = nI M := k0
    rw [k0', if_pos (nI_lt (by omega) (by omega)), suF]
  | succ k ih =>
    intro i z v2 ways hi hz
    obtain ⟨z, rfl⟩ : ∃ y, z = y + 1 := ⟨z - 1, by omega⟩
    have q := he i (by omega)
    have k0' : mi 0 = nI M := k0
    obtain ⟨w1, b1⟩ := bd_eq (mi := upd (upd mi 37 0) 41 rmn) (ways := ways) hF1 hL1 hF hL h0 hM k0 k1 k2 rfl hO hp (show i ≤ M by omega) hT hpos false
    obtain ⟨w2, b2⟩ := bd_eq (mi := upd (upd mi 37 0) 41 rmn) (ways := w1) hF1 hL1 hF hL h0 hM k0 k1 k2 rfl hO hp (show i ≤ M by omega) hT hpos true
    have b1 : fX12_spanOf (upd (upd mi 37 0) 41 rmn) must least pin ways (nI i) (0 : Int32) = (fX9_bound s (nI i) 0, pin, w1) := b1
    have b2 : fX12_spanOf (upd (upd mi 37 0) 41 rmn) must least pin w1 (nI i) (1 : Int32) = (fX9_bound s (nI i) 1, pin, w2) := b2
    rw [sm_s2]
    unfold dfX12_sure_20 bfX12_sure_51
    rw [k0', if_neg (nI_nlt (by omega) (by omega)), cal_b, b1]
    dsimp only
    rw [cal_b, b2, nI_1, suF]
    dsimp only
    by_cases c : e i = true
    · rw [if_pos (q.1 c), if_pos c]
      exact ih (i + 1) z _ w2 (by omega) (by omega)
    · rw [if_neg (fun w => c (q.2 w)), if_neg c, Int32.or_zero]
      exact ih (i + 1) z _ w2 (by omega) (by omega)
theorem a4_sure {vx : Nat → Int32} {fx : Nat → Nat → Int32} {gx : Nat → Nat → Int64} {mi : Nat → Int32} {fm : Nat → Nat → Int32} (hM : MIp mi fm) (h : REL3 vx fx mi fm) (hT : TIx vx fx) {r r2 : Int32} {v : Nat → Int32} {f : Nat → Nat → Int32} {g : Nat → Nat → Int64} {mi2 : Nat → Int32} {fm2 : Nat → Nat → Int32} {p1 : Int32} (hx : (r, v, f, g) = xs_sure vx fx gx p1) (hm : (r2, mi2, fm2) = ms_sure mi fm p1) : r = r2 := by
  obtain ⟨O, hO⟩ : ∃ O, O = fX11_sure (vx 1) (vx 2) (vx 3) (vx 44) (vx 45) (fx 3) (fx 4) (gx 0) (fx 5) (vx 46) (vx 47) (vx 48) (fx 6) (fx 7) (vx 54) (vx 55) (vx 56) (fx 13) (fx 14) (fx 15) (vx 11) (vx 12) (vx 13) (vx 15) (vx 16) (vx 17) (vx 19) (fx 22) (fx 23) (fx 24) (fx 25) (fx 26) (fx 27) (fx 28) (fx 29) p1 := ⟨_, rfl⟩
  obtain ⟨U, hU⟩ : ∃ U, U = fX12_sure mi (fm 14) (fm 15) (fm 16) (fm 17) (fm 18) (fm 19) (fm 4) (fm 7) (fm 2) (fm 5) (fm 6) (fm 3) (fm 0) (fm 1) p1 := ⟨_, rfl⟩
  have hr : r = O.1 := by
    rw [hO]
    exact congrArg (fun o => o.1) hx
  have hr2 : r2 = U.1 := by
    rw [hU]
    exact congrArg (fun o => o.1) hm
  have hfin : ∀ s : Int32, O.1 = s → U.1 = s → r = r2 := fun s a b => hr.trans (a.trans (b.symm.trans hr2.symm))
  unfold fX11_sure at hO
  unfold fX12_sure at hU
  try unfold bfX11_sure_58 at hO
  try unfold bfX12_sure_51 at hU
  obtain ⟨o1, e1, hO⟩ := cal_out hO
  obtain ⟨u1, f1, hU⟩ := cal_out hU
  obtain ⟨a1, c1⟩ := tm_of h p1
  rw [a1, ← f1] at e1
  rw [← f1] at c1
  rcases c1 with c1 | ⟨c1, n3, _, _⟩
  · rw [if_pos (e1.trans c1)] at hO
    rw [if_pos c1] at hU
    exact hfin (-2) (by rw [hO]) (by rw [hU])
  rw [if_neg (by rw [e1, c1]; decide)] at hO
  rw [if_neg (by rw [c1]; decide)] at hU
  obtain ⟨o2, e2, hO⟩ := cal_out hO
  obtain ⟨hTL, _⟩ := tb_TL hM h hT n3 e2
  obtain ⟨u2, f2, hU⟩ := cal_out hU
  obtain ⟨must, least, pin, ways, ve, row, rmn, g1, g2⟩ := qr_of hM h n3 mi (fun _ _ => rfl) ⟨rfl, rfl, rfl⟩ (fm 14) (fm 15) (fm 16) (fm 17) (fm 18) (fm 19) p1
  rw [g1] at f2
  subst f2
  dsimp only at hU
  obtain ⟨k0, k1, k2, k37, hRO, hPF⟩ := rf_of hM h n3 g2
  obtain ⟨_, ⟨b1_, bM, bF1, bF5, bL1, bL5, _, _⟩, _⟩ := ad_of hM h n3
  have h00 := ok_of hM h n3 p1
  obtain ⟨⟨q11, _⟩, _⟩ := ad_of hM h n3
  obtain ⟨E, hE⟩ : ∃ E : Nat → Bool, ∀ j, E j = true ↔ fX9_bound o2.2.2.2.2.2.2.2.2.2.2.2.2.2.2.2.2.2.2.2 (nI j) 0 = fX9_bound o2.2.2.2.2.2.2.2.2.2.2.2.2.2.2.2.2.2.2.2 (nI j) 1 := ⟨fun j => decide (fX9_bound o2.2.2.2.2.2.2.2.2.2.2.2.2.2.2.2.2.2.2.2 (nI j) 0 = fX9_bound o2.2.2.2.2.2.2.2.2.2.2.2.2.2.2.2.2.2.2.2 (nI j) 1), fun j => decide_eq_true_iff⟩
  refine hfin (suF E (aM vx + 1) 0 0) ?_ ?_
  · rw [hO]
    exact sx_L bM q11 (fun j _ => hE j) (aM vx + 1) 0 1000000000 0 (by omega) (by omega)
  · rw [hU]
    exact sm_L2 bF1 bL1 bF5 bL5 h00 bM k0 k1 k2 hRO hPF hTL (ja_pos hM h n3 p1) (fun j _ => hE j) (aM vx + 1) 0 1000000000 0 ways (by omega) (by omega)
theorem a4_drawn {vx : Nat → Int32} {fx : Nat → Nat → Int32} {gx : Nat → Nat → Int64} {mi : Nat → Int32} {fm : Nat → Nat → Int32} (hM : MIp mi fm) (h : REL3 vx fx mi fm) (hT : TIx vx fx) {r r2 : Int32} {v : Nat → Int32} {f : Nat → Nat → Int32} {g : Nat → Nat → Int64} {mi2 : Nat → Int32} {fm2 : Nat → Nat → Int32} {p1 p2 : Int32} (hx : (r, v, f, g) = xs_drawn vx fx gx p1 p2) (hm : (r2, mi2, fm2) = ms_drawn mi fm p1 p2) : r = r2 := by
  obtain ⟨O, hO⟩ : ∃ O, O = fX11_drawn (vx 1) (vx 2) (vx 3) (vx 44) (vx 45) (fx 3) (fx 4) (gx 0) (fx 5) (vx 46) (vx 47) (vx 48) (fx 6) (fx 7) (vx 54) (vx 55) (vx 56) (fx 13) (fx 14) (fx 15) (vx 11) (vx 12) (vx 13) (vx 15) (vx 16) (vx 17) (vx 19) (fx 22) (fx 23) (fx 24) (fx 25) (fx 26) (fx 27) (fx 28) (fx 29) p1 p2 := ⟨_, rfl⟩
  obtain ⟨U, hU⟩ : ∃ U, U = fX12_drawn mi (fm 14) (fm 15) (fm 16) (fm 17) (fm 18) (fm 19) (fm 4) (fm 7) (fm 2) (fm 5) (fm 6) (fm 3) (fm 0) (fm 1) p1 p2 := ⟨_, rfl⟩
  have hr : r = O.1 := by
    rw [hO]
    exact congrArg (fun o => o.1) hx
  have hr2 : r2 = U.1 := by
    rw [hU]
    exact congrArg (fun o => o.1) hm
  have hfin : ∀ s : Int32, O.1 = s → U.1 = s → r = r2 := fun s a b => hr.trans (a.trans (b.symm.trans hr2.symm))
  unfold fX11_drawn at hO
  unfold fX12_drawn at hU
  try unfold bfX11_drawn_47 at hO
  obtain ⟨o1, e1, hO⟩ := cal_out hO
  obtain ⟨u1, f1, hU⟩ := cal_out hU
  obtain ⟨a1, c1⟩ := tm_of h p1
  rw [a1, ← f1] at e1
  rw [← f1] at c1
  rcases c1 with c1 | ⟨c1, n3, _, _⟩
  · rw [if_pos (e1.trans c1)] at hO
    rw [if_pos c1] at hU
    exact hfin (-2) (by rw [hO]) (by rw [hU])
  rw [if_neg (by rw [e1, c1]; decide)] at hO
  rw [if_neg (by rw [c1]; decide)] at hU
  obtain ⟨o2, e2, hO⟩ := cal_out hO
  obtain ⟨hTL, _⟩ := tb_TL hM h hT n3 e2
  obtain ⟨o3, e3, hO⟩ := cal_out hO
  obtain ⟨u2, f2, hU⟩ := cal_out hU
  obtain ⟨must, least, pin, ways, ve, row, rmn, g1, g2⟩ := qr_of hM h n3 mi (fun _ _ => rfl) ⟨rfl, rfl, rfl⟩ (fm 14) (fm 15) (fm 16) (fm 17) (fm 18) (fm 19) p1
  rw [g1] at f2
  subst f2
  dsimp only at hU
  obtain ⟨k0, k1, k2, k37, hRO, hPF⟩ := rf_of hM h n3 g2
  obtain ⟨_, ⟨b1_, bM, bF1, bF5, bL1, bL5, _, _⟩, _⟩ := ad_of hM h n3
  have h00 := ok_of hM h n3 p1
  obtain ⟨u3, f3, hU⟩ := cal_out hU
  have c1 := (pc_counts (mi := upd (upd mi 37 0) 41 rmn) (must := must) (least := least) (pin := pin) (ways := ways) (ok := (aJ vx fx p1).1) k0 bM k1 k2 bF5 bL5 (fun m a hm ha => by rw [rOK_open bM hRO hPF m a hm ha]; exact ⟨fun q => ⟨k37, q⟩, fun q => q.2⟩)).1
  have q3 : o3 = nI (wy (aF vx) (aL vx) (aJ vx fx p1).1 (aM vx) 0 0 0) := by
    rw [e3, ← bh_000, ← hTL.2.2.1 0 0 0 (Nat.zero_le _) (Nat.le_refl _) (by omega), sp_000]
    rfl
  have q4 : u3.1 = o3 := by
    rw [f3, q3]
    exact c1
  have hpos := ja_pos hM h n3 p1
  have hle := wy_le (aF vx) (aL vx) (aJ vx fx p1).1 (aM vx) 0 0 0
  have hp : 2 ^ (aM vx) ≤ 2 ^ 24 := Nat.pow_le_pow_right (by omega) bM
  rw [if_neg (by rw [q3]; exact nI_nle hpos (by omega))] at hO
  rw [q4] at hU
  exact hfin _ (by rw [hO]) (by rw [hU])
theorem ln_s1 (F L : Int32) (f g : Nat → Int32) (p0 : Int32) (z : Nat) (v2 v3 : Int32) : (lfX9_leanIn F L f g p0 (z + 1)).1 v2 v3 = dfX9_leanIn_4 F L f g p0 (lfX9_leanIn F L f g p0 z) v2 v3 := rfl
theorem ln_s2 (F L : Int32) (f g : Nat → Int32) (p0 : Int32) (z : Nat) (v2 v3 v4 : Int32) : (lfX9_leanIn F L f g p0 (z + 1)).2 v2 v3 v4 = dfX9_leanIn_15 F L f g p0 (lfX9_leanIn F L f g p0 z) v2 v3 v4 := rfl
def lnN (F L M : Nat) (ok : Nat → Nat → Bool) (m a : Nat) : Nat := sm (fun c => bf F L ok m a c * bh F L M ok (m + 1) a (cl F L c)) (F + L + 1)
theorem ln_run {F L M m a : Nat} (hF1 : 1 ≤ F) (hL1 : 1 ≤ L) (hF : F ≤ 5) (hL : L ≤ 5) {ok : Nat → Nat → Bool} {f g : Nat → Int32} (hM : M ≤ 24) (hm : m + 1 ≤ M) (ha : a ≤ m) (hf : ∀ j b c, j ≤ M → b ≤ j → c ≤ 10 → f (sp j b c) = nI (bf F L ok j b c)) (hg : ∀ j b c, j ≤ M → b ≤ j → c ≤ 10 → g (sp j b c) = nI (bh F L M ok j b c)) (W : Nat) : ∀ (k r z : Nat), r + k = lr F L m + 1 → k < z → (lfX9_leanIn (nI F) (nI L) f g (nI m) z).2 (nI (W + sm (fun c => bf F L ok m a c * bh F L M ok (m + 1) a (cl F L c)) r)) (nI a) (nI r) = (lfX9_leanIn (nI F) (nI L) f g (nI m) (z - k - 1)).1 (nI (W + sm (fun c => bf F L ok m a c * bh F L M ok (m + 1) a (cl F L c)) (lr F L m + 1))) (nI (a + 1)) := by
  have hl : lr F L m ≤ F + L := by unfold lr; split <;> omega
  have hs := sp_le (m := m) (a := a) (c := 10) (by omega) (by omega) (by omega)
  intro k
  induction k with
  | zero =>
    intro r z hr hz
    obtain ⟨z, rfl⟩ : ∃ y, z = y + 1 := ⟨z - 1, by omega⟩
    have e : r = lr F L m + 1 := by omega
    subst e
    rw [ln_s2]
    unfold dfX9_leanIn_15
    rw [cal_b, lru_eq (by omega), if_pos (nI_lt (by omega) (by omega)), nI_1]
    rfl
  | succ k ih =>
    intro r z hr hz
    obtain ⟨z, rfl⟩ : ∃ y, z = y + 1 := ⟨z - 1, by omega⟩
    have ez : z + 1 - (k + 1) - 1 = z - k - 1 := by omega
    have hs2 : sp m a r ≤ 4000 := sp_le (by omega) (by omega) (by omega)
    have q := ih (r + 1) z (by omega) (by omega)
    rw [sm, ← Nat.add_assoc] at q
    rw [ln_s2, ez]
    unfold dfX9_leanIn_15
    rw [cal_b, lru_eq (by omega), if_neg (nI_nlt (by omega) (by omega)), cal_b, pj_spot _ (by omega) (by omega), cal_b, wl_eq hF1 hL1 hF hL (ok := ok) hM hm ha (by omega) (fun c' hc' => hg _ _ _ (by omega) (by omega) hc'), nI_clamp (by omega), hf m a r (by omega) ha (by omega), pk_mul, nI_add, nI_1]
    exact q
theorem ln_row {F L M m : Nat} (hF1 : 1 ≤ F) (hL1 : 1 ≤ L) (hF : F ≤ 5) (hL : L ≤ 5) {ok : Nat → Nat → Bool} {f g : Nat → Int32} (hM : M ≤ 24) (hm : m + 1 ≤ M) (hf : ∀ j b c, j ≤ M → b ≤ j → c ≤ 10 → f (sp j b c) = nI (bf F L ok j b c)) (hg : ∀ j b c, j ≤ M → b ≤ j → c ≤ 10 → g (sp j b c) = nI (bh F L M ok j b c)) : ∀ (k a z : Nat), a + k = m + 1 → 20 * k < z → (lfX9_leanIn (nI F) (nI L) f g (nI m) z).1 (nI (sm (fun a => lnN F L M ok m a) a)) (nI a) = nI (sm (fun a => lnN F L M ok m a) (m + 1)) := by
  have hl : lr F L m ≤ F + L := by unfold lr; split <;> omega
  intro k
  induction k with
  | zero =>
    intro a z ha hz
    obtain ⟨z, rfl⟩ : ∃ y, z = y + 1 := ⟨z - 1, by omega⟩
    have e : a = m + 1 := by omega
    subst e
    rw [ln_s1]
    unfold dfX9_leanIn_4
    rw [if_pos (nI_lt (by omega) (by omega))]
  | succ k ih =>
    intro a z ha hz
    obtain ⟨z, rfl⟩ : ∃ y, z = y + 1 := ⟨z - 1, by omega⟩
    have hq := sm_lr (F := F) (L := L) (m := m) (p := fun c => bf F L ok m a c * bh F L M ok (m + 1) a (cl F L c)) (fun c q => by rw [bf_V hF1 hL1 hF hL q, Nat.zero_mul])
    rw [ln_s1]
    unfold dfX9_leanIn_4
    rw [if_neg (nI_nlt (by omega) (by omega)), cal_b, fr_eq (by omega)]
    have e2 := ln_run hF1 hL1 hF hL (ok := ok) hM hm (show a ≤ m by omega) hf hg (sm (fun a => lnN F L M ok m a) a) (lr F L m + 1 - (if m = 0 then 0 else 1)) (if m = 0 then 0 else 1) z (by unfold lr; split <;> omega) (by omega)
    rw [hq.1, hq.2, Nat.add_zero] at e2
    rw [e2]
    exact ih (a + 1) (z - (lr F L m + 1 - (if m = 0 then 0 else 1)) - 1) (by omega) (by omega)
theorem lm_s (mi : Nat → Int32) (fm_must : Nat → Int32) (fm_least : Nat → Int32) (fm_pin : Nat → Int32) (fm_ways : Nat → Int32) (fm_verdict : Nat → Int32) (fm_row : Nat → Int32) (fm_struck : Nat → Int32) (fm_reportKnown : Nat → Int32) (fm_reportPlace : Nat → Int32) (fm_reportMonth : Nat → Int32) (fm_reportDay : Nat → Int32) (fm_reportKind : Nat → Int32) (fm_trust : Nat → Int32) (fm_letter : Nat → Int32) (p1 : Int32) (p2 : Int32) (z : Nat) (v3 : Int32) (v4 : Int32) (w0_37 : Int32) (w0_41 : Int32) (z1 : Nat → Int32) (z2 : Nat → Int32) (z3 : Nat → Int32) (z4 : Nat → Int32) (z5 : Nat → Int32) (z6 : Nat → Int32) : lfX12_lean mi fm_must fm_least fm_pin fm_ways fm_verdict fm_row fm_struck fm_reportKnown fm_reportPlace fm_reportMonth fm_reportDay fm_reportKind fm_trust fm_letter p1 p2 (z + 1) v3 v4 w0_37 w0_41 z1 z2 z3 z4 z5 z6 = dfX12_lean_32 mi fm_must fm_least fm_pin fm_ways fm_verdict fm_row fm_struck fm_reportKnown fm_reportPlace fm_reportMonth fm_reportDay fm_reportKind fm_trust fm_letter p1 p2 (lfX12_lean mi fm_must fm_least fm_pin fm_ways fm_verdict fm_row fm_struck fm_reportKnown fm_reportPlace fm_reportMonth fm_reportDay fm_reportKind fm_trust fm_letter p1 p2 z) v3 v4 w0_37 w0_41 z1 z2 z3 z4 z5 z6 := rfl
theorem lm_L {F L M m : Nat} (hF1 : 1 ≤ F) (hL1 : 1 ≤ L) (hF : F ≤ 5) (hL : L ≤ 5) {ok : Nat → Nat → Bool} {mi : Nat → Int32} {fm_must : Nat → Int32} {fm_least : Nat → Int32} {fm_pin : Nat → Int32} {fm_ways : Nat → Int32} {fm_verdict : Nat → Int32} {fm_row : Nat → Int32} {fm_struck : Nat → Int32} {fm_reportKnown : Nat → Int32} {fm_reportPlace : Nat → Int32} {fm_reportMonth : Nat → Int32} {fm_reportDay : Nat → Int32} {fm_reportKind : Nat → Int32} {fm_trust : Nat → Int32} {fm_letter : Nat → Int32} {p1 : Int32} {p2 : Int32} {rmn : Int32} {must least pin ve row : Nat → Int32} (h0 : ok 0 0 = true) (hM : M ≤ 24) (k0 : upd (upd mi 37 0) 41 rmn 0 = nI M) (k1 : upd (upd mi 37 0) 41 rmn 1 = nI F) (k2 : upd (upd mi 37 0) 41 rmn 2 = nI L) (hO : rOK M ok must least) (hp : pinF pin) (hm : m + 1 ≤ M) (hp2 : p2 = nI m) : ∀ (k a z : Nat) (ways : Nat → Int32), a + k = m + 1 → k < z → (lfX12_lean mi fm_must fm_least fm_pin fm_ways fm_verdict fm_row fm_struck fm_reportKnown fm_reportPlace fm_reportMonth fm_reportDay fm_reportKind fm_trust fm_letter p1 p2 z (nI (sm (fun a => lnN F L M ok m a) a)) (nI (29 * m + a)) 0 rmn must least pin ways ve row).1 = nI (sm (fun a => lnN F L M ok m a) (m + 1)) := by
  intro k
  induction k with
  | zero =>
    intro a z ways ha hz
    obtain ⟨z, rfl⟩ : ∃ y, z = y + 1 := ⟨z - 1, by omega⟩
    have e : a = m + 1 := by omega
    subst e
    rw [lm_s]
    unfold dfX12_lean_32
    rw [hp2, i30, if_pos (nI_lt (by omega) (by omega))]
  | succ k ih =>
    intro a z ways ha hz
    obtain ⟨z, rfl⟩ : ∃ y, z = y + 1 := ⟨z - 1, by omega⟩
    obtain ⟨w1, b1⟩ := cw_2 (mi := upd (upd mi 37 0) 41 rmn) (ways := ways) (b := a) hF1 hL1 hF hL h0 hM k0 k1 k2 rfl hO hp hm (show a ≤ m by omega) (by omega)
    have e1 : wy F L (pnd (pnd ok m a) (m + 1) a) M 0 0 0 = lnN F L M ok m a := by
      rw [st_two hF1 hL1 hF hL h0 hm (by omega) a]
      refine sm_cong _ (fun c _ => ?_)
      rw [if_pos rfl, if_neg (show ¬ a = a + 1 by omega), Nat.add_zero]
    rw [e1] at b1
    have q := ih (a + 1) z w1 (by omega) (by omega)
    rw [sm] at q
    rw [lm_s]
    unfold dfX12_lean_32
    rw [hp2, i30, if_neg (nI_nlt (by omega) (by omega)), show nI (29 * m + a) + (29 : Int32) = nI (29 * (m + 1) + a) from by rw [show (29 : Int32) = nI 29 from rfl, nI_add, show 29 * m + a + 29 = 29 * (m + 1) + a by omega], nI_1 m, nI_1, cal_b, b1]
    dsimp only
    rw [nI_add, ← hp2]
    exact q
theorem a4_lean {vx : Nat → Int32} {fx : Nat → Nat → Int32} {gx : Nat → Nat → Int64} {mi : Nat → Int32} {fm : Nat → Nat → Int32} (hM : MIp mi fm) (h : REL3 vx fx mi fm) (hT : TIx vx fx) {r r2 : Int32} {v : Nat → Int32} {f : Nat → Nat → Int32} {g : Nat → Nat → Int64} {mi2 : Nat → Int32} {fm2 : Nat → Nat → Int32} {p1 p2 : Int32} (hx : (r, v, f, g) = xs_lean vx fx gx p1 p2) (hm : (r2, mi2, fm2) = ms_lean mi fm p1 p2) : r = r2 := by
  obtain ⟨O, hO⟩ : ∃ O, O = fX11_lean (vx 1) (vx 2) (vx 3) (vx 44) (vx 45) (fx 3) (fx 4) (gx 0) (fx 5) (vx 46) (vx 47) (vx 48) (fx 6) (fx 7) (vx 54) (vx 55) (vx 56) (fx 13) (fx 14) (fx 15) (vx 11) (vx 12) (vx 13) (vx 15) (vx 16) (vx 17) (vx 19) (fx 22) (fx 23) (fx 24) (fx 25) (fx 26) (fx 27) (fx 28) (fx 29) p1 p2 := ⟨_, rfl⟩
  obtain ⟨U, hU⟩ : ∃ U, U = fX12_lean mi (fm 14) (fm 15) (fm 16) (fm 17) (fm 18) (fm 19) (fm 4) (fm 7) (fm 2) (fm 5) (fm 6) (fm 3) (fm 0) (fm 1) p1 p2 := ⟨_, rfl⟩
  have hr : r = O.1 := by
    rw [hO]
    exact congrArg (fun o => o.1) hx
  have hr2 : r2 = U.1 := by
    rw [hU]
    exact congrArg (fun o => o.1) hm
  have hfin : ∀ s : Int32, O.1 = s → U.1 = s → r = r2 := fun s a b => hr.trans (a.trans (b.symm.trans hr2.symm))
  unfold fX11_lean at hO
  unfold fX12_lean at hU
  try unfold bfX11_lean_26 at hO
  try unfold bfX12_lean_16 at hU
  obtain ⟨o1, e1, hO⟩ := cal_out hO
  obtain ⟨u1, f1, hU⟩ := cal_out hU
  obtain ⟨a1, c1⟩ := tm_of h p1
  rw [a1, ← f1] at e1
  rw [← f1] at c1
  rcases c1 with c1 | ⟨c1, n3, _, _⟩
  · rw [if_pos (e1.trans c1)] at hO
    rw [if_pos c1] at hU
    exact hfin (-2) (by rw [hO]) (by rw [hU])
  rw [if_neg (by rw [e1, c1]; decide)] at hO
  rw [if_neg (by rw [c1]; decide)] at hU
  obtain ⟨o2, e2, hO⟩ := cal_out hO
  obtain ⟨u2, f2, hU⟩ := cal_out hU
  obtain ⟨a2, c2⟩ := mo_of h n3 p2
  rw [a2, ← f2] at e2
  rw [← f2] at c2
  rcases c2 with c2 | ⟨c2, b4, b5⟩
  · rw [if_pos (e2.trans c2)] at hO
    rw [if_pos c2] at hU
    exact hfin (-2) (by rw [hO]) (by rw [hU])
  rw [if_neg (by rw [e2, c2]; decide)] at hO
  rw [if_neg (by rw [c2]; decide)] at hU
  obtain ⟨o3, e3, hO⟩ := cal_out hO
  obtain ⟨hTL, _⟩ := tb_TL hM h hT n3 e3
  obtain ⟨o4, e4, hO⟩ := cal_out hO
  obtain ⟨u3, f3, hU⟩ := cal_out hU
  obtain ⟨must, least, pin, ways, ve, row, rmn, g1, g2⟩ := qr_of hM h n3 mi (fun _ _ => rfl) ⟨rfl, rfl, rfl⟩ (fm 14) (fm 15) (fm 16) (fm 17) (fm 18) (fm 19) p1
  rw [g1] at f3
  subst f3
  dsimp only at hU
  obtain ⟨k0, k1, k2, k37, hRO, hPF⟩ := rf_of hM h n3 g2
  obtain ⟨_, ⟨b1_, bM, bF1, bF5, bL1, bL5, _, _⟩, _⟩ := ad_of hM h n3
  have h00 := ok_of hM h n3 p1
  refine hfin (nI (sm (fun a => lnN (aF vx) (aL vx) (aM vx) (aJ vx fx p1).1 p2.toNatClampNeg a) (p2.toNatClampNeg + 1))) ?_ ?_
  · rw [hO]
    show o4 = _
    obtain ⟨⟨_, t2, t3⟩, t4, t5, _⟩ := hTL
    rw [e4, t2, t3]
    have q := ln_row bF1 bL1 bF5 bL5 bM b4 t4 t5 (p2.toNatClampNeg + 1) 0 1000000000 (by omega) (by omega)
    rw [← b5] at q
    exact q
  · rw [hU]
    have q := lm_L (mi := mi) (fm_must := fm 14) (fm_least := fm 15) (fm_pin := fm 16) (fm_ways := fm 17) (fm_verdict := fm 18) (fm_row := fm 19) (fm_struck := fm 4) (fm_reportKnown := fm 7) (fm_reportPlace := fm 2) (fm_reportMonth := fm 5) (fm_reportDay := fm 6) (fm_reportKind := fm 3) (fm_trust := fm 0) (fm_letter := fm 1) (p1 := p1) (p2 := p2) (ve := ve) (row := row) bF1 bL1 bF5 bL5 h00 bM k0 k1 k2 hRO hPF b4 b5 (p2.toNatClampNeg + 1) 0 1000000000 ways (by omega) (by omega)
    rw [show 29 * p2.toNatClampNeg + 0 = 29 * p2.toNatClampNeg from rfl, ← i29, ← b5] at q
    exact q
def mxF (c : Nat → Nat) : Nat → Nat → Nat → Nat
  | 0, _, v => v
  | k + 1, i, v => mxF c k (i + 1) (if v < c i then c i else v)
theorem mxF_le {c : Nat → Nat} {B : Nat} : ∀ k i v : Nat, v ≤ B → (∀ j, j < i + k → c j ≤ B) → mxF c k i v ≤ B := by
  intro k
  induction k with
  | zero => intro i v h _; exact h
  | succ k ih =>
    intro i v h h2
    rw [mxF]
    refine ih (i + 1) _ ?_ (fun j hj => h2 j (by omega))
    split
    · exact h2 i (by omega)
    · exact h
def ttF (t : Nat → Nat) : Nat → Nat → Nat → Nat
  | 0, _, b => b
  | k + 1, i, b => ttF t k (i + 1) (if t b ≤ t i then b else i)
theorem ml_s (s : Nat → Int32) (p0 : Int32) (z : Nat) (v2 v3 : Int32) : lfX9_mostLeft s p0 (z + 1) v2 v3 = dfX9_mostLeft_4 s p0 (lfX9_mostLeft s p0 z) v2 v3 := rfl
theorem ml_L {m : Nat} {s : Nat → Int32} {c : Nat → Nat} (hm : m ≤ 24) (hs : ∀ a, a ≤ m → s (tri m + a) = nI (c a)) (hc : ∀ a, a ≤ m → c a ≤ 16777216) : ∀ k i z v : Nat, i + k = m + 1 → k < z → v ≤ 16777216 → lfX9_mostLeft s (nI m) z (nI v) (nI i) = nI (mxF c k i v) := by
  have ht := tri_le (m := m) (by omega)
  intro k
  induction k with
  | zero =>
    intro i z v hi hz hv
    obtain ⟨z, rfl⟩ : ∃ y, z = y + 1 := ⟨z - 1, by omega⟩
    rw [ml_s]
    unfold dfX9_mostLeft_4
    rw [if_pos (nI_lt (by omega) (by omega)), mxF]
  | succ k ih =>
    intro i z v hi hz hv
    obtain ⟨z, rfl⟩ : ∃ y, z = y + 1 := ⟨z - 1, by omega⟩
    have h1 := hc i (by omega)
    rw [ml_s]
    unfold dfX9_mostLeft_4
    rw [if_neg (nI_nlt (by omega) (by omega)), cal_b, pj_cell (by omega) (by omega), nI_clamp (by omega), hs i (by omega), nI_1, mxF]
    by_cases e : v < c i
    · rw [if_pos (nI_lt e (by omega)), if_pos e]
      exact ih (i + 1) z _ (by omega) (by omega) (by omega)
    · rw [if_neg (nI_nlt (by omega) (by omega)), if_neg e]
      exact ih (i + 1) z _ (by omega) (by omega) (by omega)
theorem tx_s (x_courtStands : Int32) (x_courtNews : Int32) (x_tallyStands : Int32) (c_queueLength : Int32) (c_takenBits : Int32) (fve : Nat → Int32) (fqu : Nat → Int32) (ftu : Nat → Int64) (fcb : Nat → Int32) (fmonths : Int32) (ffull : Int32) (flean : Int32) (ffal : Nat → Int32) (ffon : Nat → Int32) (t_months : Int32) (t_full : Int32) (t_lean : Int32) (fbf : Nat → Int32) (fbh : Nat → Int32) (fsa : Nat → Int32) (amonths : Int32) (afull : Int32) (alean : Int32) (ahasMoon : Int32) (amoonStart : Int32) (amoonStep : Int32) (areportCount : Int32) (p_name : Nat → Int32) (p_trust : Nat → Int32) (r_place : Nat → Int32) (r_kind : Nat → Int32) (r_month : Nat → Int32) (r_day : Nat → Int32) (r_known : Nat → Int32) (r_struck : Nat → Int32) (p1 : Int32) (z : Nat) (v3 : Int32) (v4 : Int32) (w0_12 : Int32) (w0_13 : Int32) (w0_14 : Int32) (w1_5 : Int32) (w1_6 : Int32) (w6_0 : Int32) (w6_1 : Int32) (w6_2 : Int32) (w9_3 : Int32) (w9_4 : Int32) (w9_5 : Int32) (z2 : Nat → Int32) (z3 : Nat → Int32) (z4 : Nat → Int64) (z5 : Nat → Int32) (z7 : Nat → Int32) (z8 : Nat → Int32) (z10 : Nat → Int32) (z11 : Nat → Int32) (z12 : Nat → Int32) : lfX11_telling x_courtStands x_courtNews x_tallyStands c_queueLength c_takenBits fve fqu ftu fcb fmonths ffull flean ffal ffon t_months t_full t_lean fbf fbh fsa amonths afull alean ahasMoon amoonStart amoonStep areportCount p_name p_trust r_place r_kind r_month r_day r_known r_struck p1 (z + 1) v3 v4 w0_12 w0_13 w0_14 w1_5 w1_6 w6_0 w6_1 w6_2 w9_3 w9_4 w9_5 z2 z3 z4 z5 z7 z8 z10 z11 z12 = dfX11_telling_22 x_courtStands x_courtNews x_tallyStands c_queueLength c_takenBits fve fqu ftu fcb fmonths ffull flean ffal ffon t_months t_full t_lean fbf fbh fsa amonths afull alean ahasMoon amoonStart amoonStep areportCount p_name p_trust r_place r_kind r_month r_day r_known r_struck p1 (lfX11_telling x_courtStands x_courtNews x_tallyStands c_queueLength c_takenBits fve fqu ftu fcb fmonths ffull flean ffal ffon t_months t_full t_lean fbf fbh fsa amonths afull alean ahasMoon amoonStart amoonStep areportCount p_name p_trust r_place r_kind r_month r_day r_known r_struck p1 z) v3 v4 w0_12 w0_13 w0_14 w1_5 w1_6 w6_0 w6_1 w6_2 w9_3 w9_4 w9_5 z2 z3 z4 z5 z7 z8 z10 z11 z12 := rfl
theorem tx_L {x_courtStands : Int32} {x_courtNews : Int32} {x_tallyStands : Int32} {c_queueLength : Int32} {c_takenBits : Int32} {fve : Nat → Int32} {fqu : Nat → Int32} {ftu : Nat → Int64} {fcb : Nat → Int32} {fmonths : Int32} {ffull : Int32} {flean : Int32} {ffal : Nat → Int32} {ffon : Nat → Int32} {t_months : Int32} {t_full : Int32} {t_lean : Int32} {fbf : Nat → Int32} {fbh : Nat → Int32} {fsa : Nat → Int32} {amonths : Int32} {afull : Int32} {alean : Int32} {ahasMoon : Int32} {amoonStart : Int32} {amoonStep : Int32} {areportCount : Int32} {p_name : Nat → Int32} {p_trust : Nat → Int32} {r_place : Nat → Int32} {r_kind : Nat → Int32} {r_month : Nat → Int32} {r_day : Nat → Int32} {r_known : Nat → Int32} {r_struck : Nat → Int32} {p1 : Int32} {w0_12 : Int32} {w0_13 : Int32} {w0_14 : Int32} {w1_5 : Int32} {w1_6 : Int32} {w6_0 : Int32} {w6_1 : Int32} {w6_2 : Int32} {w9_3 : Int32} {w9_4 : Int32} {w9_5 : Int32} {z2 : Nat → Int32} {z3 : Nat → Int32} {z4 : Nat → Int64} {z5 : Nat → Int32} {z7 : Nat → Int32} {z8 : Nat → Int32} {z10 : Nat → Int32} {z11 : Nat → Int32} {z12 : Nat → Int32} {M : Nat} {t : Nat → Nat} (hM : M ≤ 24) (hm : amonths = nI M) (ht : ∀ j, j ≤ M → t j ≤ 16777216 ∧ fX9_mostLeft z12 (nI j) = nI (t j)) : ∀ (k i z b : Nat), i + k = M + 1 → k < z → b ≤ M → (lfX11_telling x_courtStands x_courtNews x_tallyStands c_queueLength c_takenBits fve fqu ftu fcb fmonths ffull flean ffal ffon t_months t_full t_lean fbf fbh fsa amonths afull alean ahasMoon amoonStart amoonStep areportCount p_name p_trust r_place r_kind r_month r_day r_known r_struck p1 z (nI b) (nI i) w0_12 w0_13 w0_14 w1_5 w1_6 w6_0 w6_1 w6_2 w9_3 w9_4 w9_5 z2 z3 z4 z5 z7 z8 z10 z11 z12).1 = nI (ttF t k i b) := by
  intro k
  induction k with
  | zero =>
    intro i z b hi hz hb
    obtain ⟨z, rfl⟩ : ∃ y, z = y + 1 := ⟨z - 1, by omega⟩
    rw [tx_s]
    unfold dfX11_telling_22
    rw [hm, if_pos (nI_lt (by omega) (by omega)), ttF]
  | succ k ih =>
    intro i z b hi hz hb
    obtain ⟨z, rfl⟩ : ∃ y, z = y + 1 := ⟨z - 1, by omega⟩
    obtain ⟨a1, a2⟩ := ht i (by omega)
    obtain ⟨b1, b2⟩ := ht b hb
    rw [tx_s]
    unfold dfX11_telling_22 bfX11_telling_51
    rw [if_neg (by rw [hm]; exact nI_nlt (by omega) (by omega)), cal_b, cal_b, a2, b2, nI_1, ttF]
    by_cases c : t b ≤ t i
    · rw [if_pos ((nI_leI (by omega) (by omega)).2 c), if_pos c]
      exact ih (i + 1) z b (by omega) (by omega) hb
    · rw [if_neg (fun w => c ((nI_leI (by omega) (by omega)).1 w)), if_neg c]
      exact ih (i + 1) z i (by omega) (by omega) (by omega)
theorem tg_s1 (mi : Nat → Int32) (fm_must : Nat → Int32) (fm_least : Nat → Int32) (fm_pin : Nat → Int32) (fm_ways : Nat → Int32) (fm_verdict : Nat → Int32) (fm_row : Nat → Int32) (fm_struck : Nat → Int32) (fm_reportKnown : Nat → Int32) (fm_reportPlace : Nat → Int32) (fm_reportMonth : Nat → Int32) (fm_reportDay : Nat → Int32) (fm_reportKind : Nat → Int32) (fm_trust : Nat → Int32) (fm_letter : Nat → Int32) (p1 : Int32) (z : Nat) (v2 : Int32) (v3 : Int32) (v4 : Int32) (w0_37 : Int32) (w0_41 : Int32) (z1 : Nat → Int32) (z2 : Nat → Int32) (z3 : Nat → Int32) (z4 : Nat → Int32) (z5 : Nat → Int32) (z6 : Nat → Int32) : (lfX12_telling mi fm_must fm_least fm_pin fm_ways fm_verdict fm_row fm_struck fm_reportKnown fm_reportPlace fm_reportMonth fm_reportDay fm_reportKind fm_trust fm_letter p1 (z + 1)).1 v2 v3 v4 w0_37 w0_41 z1 z2 z3 z4 z5 z6 = dfX12_telling_23 mi fm_must fm_least fm_pin fm_ways fm_verdict fm_row fm_struck fm_reportKnown fm_reportPlace fm_reportMonth fm_reportDay fm_reportKind fm_trust fm_letter p1 (lfX12_telling mi fm_must fm_least fm_pin fm_ways fm_verdict fm_row fm_struck fm_reportKnown fm_reportPlace fm_reportMonth fm_reportDay fm_reportKind fm_trust fm_letter p1 z) v2 v3 v4 w0_37 w0_41 z1 z2 z3 z4 z5 z6 := rfl
theorem tg_s2 (mi : Nat → Int32) (fm_must : Nat → Int32) (fm_least : Nat → Int32) (fm_pin : Nat → Int32) (fm_ways : Nat → Int32) (fm_verdict : Nat → Int32) (fm_row : Nat → Int32) (fm_struck : Nat → Int32) (fm_reportKnown : Nat → Int32) (fm_reportPlace : Nat → Int32) (fm_reportMonth : Nat → Int32) (fm_reportDay : Nat → Int32) (fm_reportKind : Nat → Int32) (fm_trust : Nat → Int32) (fm_letter : Nat → Int32) (p1 : Int32) (z : Nat) (v2 : Int32) (v3 : Int32) (v4 : Int32) (v5 : Int32) (v6 : Int32) (w0_37 : Int32) (w0_41 : Int32) (z1 : Nat → Int32) (z2 : Nat → Int32) (z3 : Nat → Int32) (z4 : Nat → Int32) (z5 : Nat → Int32) (z6 : Nat → Int32) : (lfX12_telling mi fm_must fm_least fm_pin fm_ways fm_verdict fm_row fm_struck fm_reportKnown fm_reportPlace fm_reportMonth fm_reportDay fm_reportKind fm_trust fm_letter p1 (z + 1)).2 v2 v3 v4 v5 v6 w0_37 w0_41 z1 z2 z3 z4 z5 z6 = dfX12_telling_42 mi fm_must fm_least fm_pin fm_ways fm_verdict fm_row fm_struck fm_reportKnown fm_reportPlace fm_reportMonth fm_reportDay fm_reportKind fm_trust fm_letter p1 (lfX12_telling mi fm_must fm_least fm_pin fm_ways fm_verdict fm_row fm_struck fm_reportKnown fm_reportPlace fm_reportMonth fm_reportDay fm_reportKind fm_trust fm_letter p1 z) v2 v3 v4 v5 v6 w0_37 w0_41 z1 z2 z3 z4 z5 z6 := rfl
theorem tg_in {F L M m : Nat} (hF1 : 1 ≤ F) (hL1 : 1 ≤ L) (hF : F ≤ 5) (hL : L ≤ 5) {ok : Nat → Nat → Bool} {mi : Nat → Int32} {fm_must : Nat → Int32} {fm_least : Nat → Int32} {fm_pin : Nat → Int32} {fm_ways : Nat → Int32} {fm_verdict : Nat → Int32} {fm_row : Nat → Int32} {fm_struck : Nat → Int32} {fm_reportKnown : Nat → Int32} {fm_reportPlace : Nat → Int32} {fm_reportMonth : Nat → Int32} {fm_reportDay : Nat → Int32} {fm_reportKind : Nat → Int32} {fm_trust : Nat → Int32} {fm_letter : Nat → Int32} {p1 : Int32} {rmn v2 v3 : Int32} {must least pin ve row : Nat → Int32} (h0 : ok 0 0 = true) (hM : M ≤ 24) (k0 : upd (upd mi 37 0) 41 rmn 0 = nI M) (k1 : upd (upd mi 37 0) 41 rmn 1 = nI F) (k2 : upd (upd mi 37 0) 41 rmn 2 = nI L) (hO : rOK M ok must least) (hp : pinF pin) (hm : m ≤ M) : ∀ (k a z v5 : Nat) (ways : Nat → Int32), a + k = m + 1 → k < z → v5 ≤ 16777216 → ∃ ways' : Nat → Int32, (lfX12_telling mi fm_must fm_least fm_pin fm_ways fm_verdict fm_row fm_struck fm_reportKnown fm_reportPlace fm_reportMonth fm_reportDay fm_reportKind fm_trust fm_letter p1 z).2 v2 v3 (nI m) (nI v5) (nI (29 * m + a)) 0 rmn must least pin ways ve row = (lfX12_telling mi fm_must fm_least fm_pin fm_ways fm_verdict fm_row fm_struck fm_reportKnown fm_reportPlace fm_reportMonth fm_reportDay fm_reportKind fm_trust fm_letter p1 (z - k)).2 v2 v3 (nI m) (nI (mxF (stN F L M ok m) k a v5)) (nI (29 * m + (m + 1))) 0 rmn must least pin ways' ve row := by
  intro k
  induction k with
  | zero =>
    intro a z v5 ways ha hz hv
    have e : a = m + 1 := by omega
    subst e
    rw [mxF]
    exact ⟨ways, rfl⟩
  | succ k ih =>
    intro a z v5 ways ha hz hv
    obtain ⟨z, rfl⟩ : ∃ y, z = y + 1 := ⟨z - 1, by omega⟩
    obtain ⟨w1, b1⟩ := bo_eq (mi := upd (upd mi 37 0) 41 rmn) (ways := ways) hF1 hL1 hF hL h0 hM k0 k1 k2 rfl hO hp hm (show a ≤ m by omega)
    have h1 := st_le hF1 hL1 hF hL (ok := ok) h0 hm hM (show a ≤ m by omega)
    rw [tg_s2]
    unfold dfX12_telling_42
    rw [i30, if_neg (nI_nlt (by omega) (by omega)), cal_b, b1]
    dsimp only
    rw [nI_1, mxF, show z + 1 - (k + 1) = z - k by omega]
    by_cases e : v5 < stN F L M ok m a
    · rw [if_pos (nI_lt e (by omega)), if_pos e]
      exact ih (a + 1) z _ w1 (by omega) (by omega) (by omega)
    · rw [if_neg (nI_nlt (by omega) (by omega)), if_neg e]
      exact ih (a + 1) z _ w1 (by omega) (by omega) (by omega)
theorem tg_L {F L M : Nat} (hF1 : 1 ≤ F) (hL1 : 1 ≤ L) (hF : F ≤ 5) (hL : L ≤ 5) {ok : Nat → Nat → Bool} {mi : Nat → Int32} {fm_must : Nat → Int32} {fm_least : Nat → Int32} {fm_pin : Nat → Int32} {fm_ways : Nat → Int32} {fm_verdict : Nat → Int32} {fm_row : Nat → Int32} {fm_struck : Nat → Int32} {fm_reportKnown : Nat → Int32} {fm_reportPlace : Nat → Int32} {fm_reportMonth : Nat → Int32} {fm_reportDay : Nat → Int32} {fm_reportKind : Nat → Int32} {fm_trust : Nat → Int32} {fm_letter : Nat → Int32} {p1 : Int32} {rmn : Int32} {must least pin ve row : Nat → Int32} (h0 : ok 0 0 = true) (hM : M ≤ 24) (k0 : upd (upd mi 37 0) 41 rmn 0 = nI M) (k1 : upd (upd mi 37 0) 41 rmn 1 = nI F) (k2 : upd (upd mi 37 0) 41 rmn 2 = nI L) (hO : rOK M ok must least) (hp : pinF pin) {t : Nat → Nat} (ht : ∀ j, j ≤ M → t j = mxF (stN F L M ok j) (j + 1) 0 0) : ∀ (k i z b : Nat) (ways : Nat → Int32), i + k = M + 1 → 40 * k < z → b ≤ M → (lfX12_telling mi fm_must fm_least fm_pin fm_ways fm_verdict fm_row fm_struck fm_reportKnown fm_reportPlace fm_reportMonth fm_reportDay fm_reportKind fm_trust fm_letter p1 z).1 (nI b) (nI (t b)) (nI i) 0 rmn must least pin ways ve row = (lfX12_telling mi fm_must fm_least fm_pin fm_ways fm_verdict fm_row fm_struck fm_reportKnown fm_reportPlace fm_reportMonth fm_reportDay fm_reportKind fm_trust fm_letter p1 z).1 (nI b) (nI (t b)) (nI i) 0 rmn must least pin ways ve row ∧ ((lfX12_telling mi fm_must fm_least fm_pin fm_ways fm_verdict fm_row fm_struck fm_reportKnown fm_reportPlace fm_reportMonth fm_reportDay fm_reportKind fm_trust fm_letter p1 z).1 (nI b) (nI (t b)) (nI i) 0 rmn must least pin ways ve row).1 = nI (ttF t k i b) := by
  have k0' : mi 0 = nI M := k0
  have hb9 : ∀ j, j ≤ M → t j ≤ 16777216 := fun j hj => by
    rw [ht j hj]
    exact mxF_le _ _ _ (by omega) (fun a ha => st_le hF1 hL1 hF hL h0 hj hM (by omega))
  intro k
  induction k with
  | zero =>
    intro i z b ways hi hz hb
    obtain ⟨z, rfl⟩ : ∃ y, z = y + 1 := ⟨z - 1, by omega⟩
    refine ⟨rfl, ?_⟩
    rw [tg_s1]
    unfold dfX12_telling_23
    rw [k0', if_pos (nI_lt (by omega) (by omega)), ttF]
  | succ k ih =>
    intro i z b ways hi hz hb
    obtain ⟨z, rfl⟩ : ∃ y, z = y + 1 := ⟨z - 1, by omega⟩
    refine ⟨rfl, ?_⟩
    have hbi := hb9 i (by omega)
    have hbb := hb9 b hb
    obtain ⟨w1, q⟩ := tg_in (v2 := nI b) (v3 := nI (t b)) (p1 := p1) (ve := ve) (row := row) hF1 hL1 hF hL h0 hM k0 k1 k2 hO hp (show i ≤ M by omega) (i + 1) 0 z 0 ways (by omega) (by omega) (by omega)
    obtain ⟨y, hy⟩ : ∃ y, z - (i + 1) = y + 1 := ⟨z - (i + 1) - 1, by omega⟩
    rw [Nat.add_zero, nI_0, ← ht i (by omega), hy, tg_s2] at q
    rw [tg_s1]
    unfold dfX12_telling_23
    rw [k0', if_neg (nI_nlt (by omega) (by omega)), i29, q]
    unfold dfX12_telling_42 bfX12_telling_84 bfX12_telling_90
    rw [i30, if_pos (nI_lt (by omega) (by omega)), if_neg (nIm1 (by omega)), ttF, nI_1]
    by_cases c : t b ≤ t i
    · rw [if_pos ((nI_leI (by omega) (by omega)).2 c), if_pos c]
      exact (ih (i + 1) y b w1 (by omega) (by omega) hb).2
    · rw [if_neg (fun w => c ((nI_leI (by omega) (by omega)).1 w)), if_neg c]
      exact (ih (i + 1) y i w1 (by omega) (by omega) (by omega)).2
theorem tg_0 {F L M : Nat} (hF1 : 1 ≤ F) (hL1 : 1 ≤ L) (hF : F ≤ 5) (hL : L ≤ 5) {ok : Nat → Nat → Bool} {mi : Nat → Int32} {fm_must : Nat → Int32} {fm_least : Nat → Int32} {fm_pin : Nat → Int32} {fm_ways : Nat → Int32} {fm_verdict : Nat → Int32} {fm_row : Nat → Int32} {fm_struck : Nat → Int32} {fm_reportKnown : Nat → Int32} {fm_reportPlace : Nat → Int32} {fm_reportMonth : Nat → Int32} {fm_reportDay : Nat → Int32} {fm_reportKind : Nat → Int32} {fm_trust : Nat → Int32} {fm_letter : Nat → Int32} {p1 : Int32} {rmn : Int32} {must least pin ve row : Nat → Int32} (h0 : ok 0 0 = true) (hM2 : 2 ≤ M) (hM : M ≤ 24) (k0 : upd (upd mi 37 0) 41 rmn 0 = nI M) (k1 : upd (upd mi 37 0) 41 rmn 1 = nI F) (k2 : upd (upd mi 37 0) 41 rmn 2 = nI L) (hO : rOK M ok must least) (hp : pinF pin) {t : Nat → Nat} (ht : ∀ j, j ≤ M → t j = mxF (stN F L M ok j) (j + 1) 0 0) (ways : Nat → Int32) : ((lfX12_telling mi fm_must fm_least fm_pin fm_ways fm_verdict fm_row fm_struck fm_reportKnown fm_reportPlace fm_reportMonth fm_reportDay fm_reportKind fm_trust fm_letter p1 1000000000).1 (-1) 0 1 0 rmn must least pin ways ve row).1 = nI (ttF t (M - 1) 2 1) := by
  have k0' : mi 0 = nI M := k0
  obtain ⟨w1, q⟩ := tg_in (fm_must := fm_must) (fm_least := fm_least) (fm_pin := fm_pin) (fm_ways := fm_ways) (fm_verdict := fm_verdict) (fm_row := fm_row) (fm_struck := fm_struck) (fm_reportKnown := fm_reportKnown) (fm_reportPlace := fm_reportPlace) (fm_reportMonth := fm_reportMonth) (fm_reportDay := fm_reportDay) (fm_reportKind := fm_reportKind) (fm_trust := fm_trust) (fm_letter := fm_letter) (v2 := (-1 : Int32)) (v3 := (0 : Int32)) (p1 := p1) (ve := ve) (row := row) hF1 hL1 hF hL h0 hM k0 k1 k2 hO hp (show 1 ≤ M by omega) (1 + 1) 0 999999999 0 ways (by omega) (by omega) (by omega)
  rw [Nat.add_zero, nI_0, ← ht 1 (by omega), show 999999999 - (1 + 1) = 999999996 + 1 from rfl, tg_s2] at q
  rw [show (1000000000 : Nat) = 999999999 + 1 from rfl, tg_s1]
  unfold dfX12_telling_23
  rw [k0', if_neg (show ¬ nI M < (1 : Int32) from nI_nlt (a := M) (b := 1) (by omega) (by omega))]
  show ((lfX12_telling mi fm_must fm_least fm_pin fm_ways fm_verdict fm_row fm_struck fm_reportKnown fm_reportPlace fm_reportMonth fm_reportDay fm_reportKind fm_trust fm_letter p1 999999999).2 (-1) 0 (nI 1) 0 ((29 : Int32) * nI 1) 0 rmn must least pin ways ve row).1 = _
  rw [i29, tg_s2, q, tg_s2]
  unfold dfX12_telling_42 bfX12_telling_84 bfX12_telling_90
  rw [i30, if_pos (nI_lt (by omega) (by omega)), if_pos rfl, nI_1]
  exact (tg_L hF1 hL1 hF hL h0 hM k0 k1 k2 hO hp ht (M - 1) 2 999999996 1 w1 (by omega) (by omega) (by omega)).2
theorem a4_telling {vx : Nat → Int32} {fx : Nat → Nat → Int32} {gx : Nat → Nat → Int64} {mi : Nat → Int32} {fm : Nat → Nat → Int32} (hM : MIp mi fm) (h : REL3 vx fx mi fm) (hT : TIx vx fx) {r r2 : Int32} {v : Nat → Int32} {f : Nat → Nat → Int32} {g : Nat → Nat → Int64} {mi2 : Nat → Int32} {fm2 : Nat → Nat → Int32} {p1 : Int32} (hx : (r, v, f, g) = xs_telling vx fx gx p1) (hm : (r2, mi2, fm2) = ms_telling mi fm p1) : r = r2 := by
  obtain ⟨O, hO⟩ : ∃ O, O = fX11_telling (vx 1) (vx 2) (vx 3) (vx 44) (vx 45) (fx 3) (fx 4) (gx 0) (fx 5) (vx 46) (vx 47) (vx 48) (fx 6) (fx 7) (vx 54) (vx 55) (vx 56) (fx 13) (fx 14) (fx 15) (vx 11) (vx 12) (vx 13) (vx 15) (vx 16) (vx 17) (vx 19) (fx 22) (fx 23) (fx 24) (fx 25) (fx 26) (fx 27) (fx 28) (fx 29) p1 := ⟨_, rfl⟩
  obtain ⟨U, hU⟩ : ∃ U, U = fX12_telling mi (fm 14) (fm 15) (fm 16) (fm 17) (fm 18) (fm 19) (fm 4) (fm 7) (fm 2) (fm 5) (fm 6) (fm 3) (fm 0) (fm 1) p1 := ⟨_, rfl⟩
  have hr : r = O.1 := by
    rw [hO]
    exact congrArg (fun o => o.1) hx
  have hr2 : r2 = U.1 := by
    rw [hU]
    exact congrArg (fun o => o.1) hm
  have hfin : ∀ s : Int32, O.1 = s → U.1 = s → r = r2 := fun s a b => hr.trans (a.trans (b.symm.trans hr2.symm))
  unfold fX11_telling at hO
  unfold fX12_telling at hU
  try unfold bfX11_telling_51 at hO
  try unfold bfX12_telling_84 at hU
  try unfold bfX12_telling_90 at hU
  obtain ⟨o1, e1, hO⟩ := cal_out hO
  obtain ⟨u1, f1, hU⟩ := cal_out hU
  obtain ⟨a1, c1⟩ := tm_of h p1
  rw [a1, ← f1] at e1
  rw [← f1] at c1
  rcases c1 with c1 | ⟨c1, n3, _, _⟩
  · rw [if_pos (e1.trans c1)] at hO
    rw [if_pos c1] at hU
    exact hfin (-2) (by rw [hO]) (by rw [hU])
  rw [if_neg (by rw [e1, c1]; decide)] at hO
  rw [if_neg (by rw [c1]; decide)] at hU
  obtain ⟨o2, e2, hO⟩ := cal_out hO
  obtain ⟨hTL, _⟩ := tb_TL hM h hT n3 e2
  obtain ⟨u2, f2, hU⟩ := cal_out hU
  obtain ⟨must, least, pin, ways, ve, row, rmn, g1, g2⟩ := qr_of hM h n3 mi (fun _ _ => rfl) ⟨rfl, rfl, rfl⟩ (fm 14) (fm 15) (fm 16) (fm 17) (fm 18) (fm 19) p1
  rw [g1] at f2
  subst f2
  dsimp only at hU
  obtain ⟨k0, k1, k2, k37, hRO, hPF⟩ := rf_of hM h n3 g2
  obtain ⟨_, ⟨b1_, bM, bF1, bF5, bL1, bL5, _, _⟩, _⟩ := ad_of hM h n3
  have h00 := ok_of hM h n3 p1
  obtain ⟨⟨q11, _⟩, _⟩ := ad_of hM h n3
  refine hfin (nI (ttF (fun j => mxF (stN (aF vx) (aL vx) (aM vx) (aJ vx fx p1).1 j) (j + 1) 0 0) (aM vx - 1) 2 1)) ?_ ?_
  · rw [hO]
    exact tx_L bM q11 (fun j hj => ⟨mxF_le _ _ _ (by omega) (fun a ha => st_le bF1 bL1 bF5 bL5 h00 hj bM (by omega)), by
      have q := ml_L (m := j) (c := stN (aF vx) (aL vx) (aM vx) (aJ vx fx p1).1 j) (by omega) (fun a ha => hTL.2.2.2 j a hj ha) (fun a ha => st_le bF1 bL1 bF5 bL5 h00 hj bM ha) (j + 1) 0 1000000000 0 (by omega) (by omega) (by omega)
      rw [nI_0] at q
      exact q⟩) (aM vx - 1) 2 1000000000 1 (by omega) (by omega) (by omega)
  · rw [hU]
    exact tg_0 bF1 bL1 bF5 bL5 h00 b1_ bM k0 k1 k2 hRO hPF (fun j _ => rfl) ways
def Wr {R : Type} (P : R → Prop) (x : R) : Prop := P x
theorem wr_ite {R : Type} {P : R → Prop} {c : Prop} {hc : Decidable c} {a b : R} (h1 : c → Wr P a) (h2 : ¬ c → Wr P b) : Wr P (@ite R c hc a b) := by
  by_cases q : c
  · rw [if_pos q]
    exact h1 q
  · rw [if_neg q]
    exact h2 q
theorem wr_cal {R γ : Type} {P : R → Prop} {f : γ → R} {a : γ} (h : ∀ o, o = a → Wr P (f o)) : Wr P (cal f a) := h a rfl
def K3 (t0 : Int32) (a0 : Nat → Int32) (ts : Int32) (al : Nat → Int32) : Prop := ts = 0 ∨ (ts = t0 ∧ al = a0)
theorem k3_0 {t0 : Int32} {a0 : Nat → Int32} : K3 t0 a0 t0 a0 := Or.inr ⟨rfl, rfl⟩
theorem k3_t {t0 t1 t2 : Int32} {a0 a1 a2 : Nat → Int32} (h : K3 t0 a0 t1 a1) (h2 : t2 = 0 ∨ (t2 = t1 ∧ a2 = a1)) : K3 t0 a0 t2 a2 := by
  rcases h2 with q | ⟨q1, q2⟩
  · exact Or.inl q
  · rw [q1, q2]
    exact h
theorem wr_cb {R : Type} {P : R → Prop} {t0 : Int32} {a0 : Nat → Int32} {cs cn ts ql tb a b c : Int32} {ve qu bg al on : Nat → Int32} {tu : Nat → Int64} {am af ax hm ms mp rc : Int32} {pn pt rp rk rm rd rn rs : Nat → Int32} {t : Int32} {F : (Int32 × Int32 × Int32 × Int32 × Int32 × Int32 × Int32 × Int32 × (Nat → Int32) × (Nat → Int32) × (Nat → Int64) × (Nat → Int32) × (Nat → Int32) × (Nat → Int32)) → R} (hK : K3 t0 a0 ts al) (hF : ∀ o, K3 t0 a0 o.2.2.1 o.2.2.2.2.2.2.2.2.2.2.2.2.1 → Wr P (F o)) : Wr P (cal F (fX11_courtBy cs cn ts ql tb ve qu tu bg a b c al on am af ax hm ms mp rc pn pt rp rk rm rd rn rs t)) := hF _ (k3_t hK (ct_ts rfl))
theorem wr_eb {R : Type} {P : R → Prop} {t0 : Int32} {a0 : Nat → Int32} {x_courtStands : Int32} {x_courtNews : Int32} {x_tallyStands : Int32} {c_queueLength : Int32} {c_takenBits : Int32} {fve : Nat → Int32} {fqu : Nat → Int32} {ftu : Nat → Int64} {fcb : Nat → Int32} {fmonths : Int32} {ffull : Int32} {flean : Int32} {ffal : Nat → Int32} {ffon : Nat → Int32} {amonths : Int32} {afull : Int32} {alean : Int32} {ahasMoon : Int32} {amoonStart : Int32} {amoonStep : Int32} {areportCount : Int32} {p_name : Nat → Int32} {p_trust : Nat → Int32} {r_place : Nat → Int32} {r_kind : Nat → Int32} {r_month : Nat → Int32} {r_day : Nat → Int32} {r_known : Nat → Int32} {r_struck : Nat → Int32} {d_month : Nat → Int32} {d_day : Nat → Int32} {d_length : Nat → Int32} {d_inDays : Nat → Int32} {p1 : Int32} {p2 : Int32} {F : (Int32 × Int32 × Int32 × Int32 × Int32 × Int32 × Int32 × Int32 × Int32 × (Nat → Int32) × (Nat → Int32) × (Nat → Int64) × (Nat → Int32) × (Nat → Int32) × (Nat → Int32)) → R} (hK : K3 t0 a0 x_tallyStands ffal) (hF : ∀ o, K3 t0 a0 o.2.2.2.1 o.2.2.2.2.2.2.2.2.2.2.2.2.2.1 → Wr P (F o)) : Wr P (cal F (fX11_endByOfficial x_courtStands x_courtNews x_tallyStands c_queueLength c_takenBits fve fqu ftu fcb fmonths ffull flean ffal ffon amonths afull alean ahasMoon amoonStart amoonStep areportCount p_name p_trust r_place r_kind r_month r_day r_known r_struck d_month d_day d_length d_inDays p1 p2)) := by
  refine hF _ ?_
  unfold fX11_endByOfficial
  exact k3_t hK (ct_ts rfl)
theorem p4_feed {vx : Nat → Int32} {fx : Nat → Nat → Int32} {gx : Nat → Nat → Int64} (h : TIx vx fx) {r : Int32} {v : Nat → Int32} {f : Nat → Nat → Int32} {g : Nat → Nat → Int64} {p1 p2 p3 p4 p5 : Int32} (hx : (r, v, f, g) = xs_feed vx fx gx p1 p2 p3 p4 p5) : TIx v f := by
  have e1 : v = (xs_feed vx fx gx p1 p2 p3 p4 p5).2.1 := congrArg (fun o => o.2.1) hx
  have e2 : f = (xs_feed vx fx gx p1 p2 p3 p4 p5).2.2.1 := congrArg (fun o => o.2.2.1) hx
  rw [e1, e2]
  exact h
theorem p4_end {vx : Nat → Int32} {fx : Nat → Nat → Int32} {gx : Nat → Nat → Int64} (h : TIx vx fx) {r : Int32} {v : Nat → Int32} {f : Nat → Nat → Int32} {g : Nat → Nat → Int64} {p1 : Int32} (hx : (r, v, f, g) = xs_end vx fx gx p1) : TIx v f := by
  have e1 : v = (xs_end vx fx gx p1).2.1 := congrArg (fun o => o.2.1) hx
  have e2 : f = (xs_end vx fx gx p1).2.2.1 := congrArg (fun o => o.2.2.1) hx
  rw [e1, e2]
  exact h
theorem p4_fault {vx : Nat → Int32} {fx : Nat → Nat → Int32} {gx : Nat → Nat → Int64} (h : TIx vx fx) {r : Int32} {v : Nat → Int32} {f : Nat → Nat → Int32} {g : Nat → Nat → Int64} {p1 : Int32} (hx : (r, v, f, g) = xs_fault vx fx gx p1) : TIx v f := by
  have e1 : v = (xs_fault vx fx gx p1).2.1 := congrArg (fun o => o.2.1) hx
  have e2 : f = (xs_fault vx fx gx p1).2.2.1 := congrArg (fun o => o.2.2.1) hx
  rw [e1, e2]
  exact h
theorem p4_count {vx : Nat → Int32} {fx : Nat → Nat → Int32} {gx : Nat → Nat → Int64} (h : TIx vx fx) {r : Int32} {v : Nat → Int32} {f : Nat → Nat → Int32} {g : Nat → Nat → Int64} {p1 : Int32} (hx : (r, v, f, g) = xs_count vx fx gx p1) : TIx v f := by
  have e1 : v = (xs_count vx fx gx p1).2.1 := congrArg (fun o => o.2.1) hx
  have e2 : f = (xs_count vx fx gx p1).2.2.1 := congrArg (fun o => o.2.2.1) hx
  rw [e1, e2]
  exact h
theorem p4_place {vx : Nat → Int32} {fx : Nat → Nat → Int32} {gx : Nat → Nat → Int64} (h : TIx vx fx) {r : Int32} {v : Nat → Int32} {f : Nat → Nat → Int32} {g : Nat → Nat → Int64} {p1 p2 : Int32} (hx : (r, v, f, g) = xs_place vx fx gx p1 p2) : TIx v f := by
  have e1 : v = (xs_place vx fx gx p1 p2).2.1 := congrArg (fun o => o.2.1) hx
  have e2 : f = (xs_place vx fx gx p1 p2).2.2.1 := congrArg (fun o => o.2.2.1) hx
  rw [e1, e2]
  exact h
theorem p4_report {vx : Nat → Int32} {fx : Nat → Nat → Int32} {gx : Nat → Nat → Int64} (h : TIx vx fx) {r : Int32} {v : Nat → Int32} {f : Nat → Nat → Int32} {g : Nat → Nat → Int64} {p1 p2 : Int32} (hx : (r, v, f, g) = xs_report vx fx gx p1 p2) : TIx v f := by
  have e1 : v = (xs_report vx fx gx p1 p2).2.1 := congrArg (fun o => o.2.1) hx
  have e2 : f = (xs_report vx fx gx p1 p2).2.2.1 := congrArg (fun o => o.2.2.1) hx
  rw [e1, e2]
  exact h
theorem p4_deed {vx : Nat → Int32} {fx : Nat → Nat → Int32} {gx : Nat → Nat → Int64} (h : TIx vx fx) {r : Int32} {v : Nat → Int32} {f : Nat → Nat → Int32} {g : Nat → Nat → Int64} {p1 p2 : Int32} (hx : (r, v, f, g) = xs_deed vx fx gx p1 p2) : TIx v f := by
  have e1 : v = (xs_deed vx fx gx p1 p2).2.1 := congrArg (fun o => o.2.1) hx
  have e2 : f = (xs_deed vx fx gx p1 p2).2.2.1 := congrArg (fun o => o.2.2.1) hx
  rw [e1, e2]
  exact h
theorem p4_early {vx : Nat → Int32} {fx : Nat → Nat → Int32} {gx : Nat → Nat → Int64} (h : TIx vx fx) {r : Int32} {v : Nat → Int32} {f : Nat → Nat → Int32} {g : Nat → Nat → Int64} {p1 : Int32} (hx : (r, v, f, g) = xs_early vx fx gx p1) : TIx v f := by
  have e1 : v = (xs_early vx fx gx p1).2.1 := congrArg (fun o => o.2.1) hx
  have e2 : f = (xs_early vx fx gx p1).2.2.1 := congrArg (fun o => o.2.2.1) hx
  rw [e1, e2]
  exact h
theorem p4_blind {vx : Nat → Int32} {fx : Nat → Nat → Int32} {gx : Nat → Nat → Int64} (h : TIx vx fx) {r : Int32} {v : Nat → Int32} {f : Nat → Nat → Int32} {g : Nat → Nat → Int64} {p1 p2 : Int32} (hx : (r, v, f, g) = xs_blind vx fx gx p1 p2) : TIx v f := by
  have e1 : v = (xs_blind vx fx gx p1 p2).2.1 := congrArg (fun o => o.2.1) hx
  have e2 : f = (xs_blind vx fx gx p1 p2).2.2.1 := congrArg (fun o => o.2.2.1) hx
  rw [e1, e2]
  exact h
theorem p4_shifts {vx : Nat → Int32} {fx : Nat → Nat → Int32} {gx : Nat → Nat → Int64} (h : TIx vx fx) {r : Int32} {v : Nat → Int32} {f : Nat → Nat → Int32} {g : Nat → Nat → Int64} {p1 : Int32} (hx : (r, v, f, g) = xs_shifts vx fx gx p1) : TIx v f := by
  have e1 : v = (xs_shifts vx fx gx p1).2.1 := congrArg (fun o => o.2.1) hx
  have e2 : f = (xs_shifts vx fx gx p1).2.2.1 := congrArg (fun o => o.2.2.1) hx
  rw [e1, e2]
  exact h
theorem p4_settled {vx : Nat → Int32} {fx : Nat → Nat → Int32} {gx : Nat → Nat → Int64} (h : TIx vx fx) {r : Int32} {v : Nat → Int32} {f : Nat → Nat → Int32} {g : Nat → Nat → Int64} {p1 : Int32} (hx : (r, v, f, g) = xs_settled vx fx gx p1) : TIx v f := by
  have e1 : v = (xs_settled vx fx gx p1).2.1 := congrArg (fun o => o.2.1) hx
  have e2 : f = (xs_settled vx fx gx p1).2.2.1 := congrArg (fun o => o.2.2.1) hx
  rw [e1, e2]
  exact h
theorem p4_redated {vx : Nat → Int32} {fx : Nat → Nat → Int32} {gx : Nat → Nat → Int64} (h : TIx vx fx) {r : Int32} {v : Nat → Int32} {f : Nat → Nat → Int32} {g : Nat → Nat → Int64} {p1 : Int32} (hx : (r, v, f, g) = xs_redated vx fx gx p1) : TIx v f := by
  have e1 : v = (xs_redated vx fx gx p1).2.1 := congrArg (fun o => o.2.1) hx
  have e2 : f = (xs_redated vx fx gx p1).2.2.1 := congrArg (fun o => o.2.2.1) hx
  rw [e1, e2]
  exact h
theorem p4_own {vx : Nat → Int32} {fx : Nat → Nat → Int32} {gx : Nat → Nat → Int64} (h : TIx vx fx) {r : Int32} {v : Nat → Int32} {f : Nat → Nat → Int32} {g : Nat → Nat → Int64} {p1 p2 p3 : Int32} (hx : (r, v, f, g) = xs_own vx fx gx p1 p2 p3) : TIx v f := by
  have e1 : v = (xs_own vx fx gx p1 p2 p3).2.1 := congrArg (fun o => o.2.1) hx
  have e2 : f = (xs_own vx fx gx p1 p2 p3).2.2.1 := congrArg (fun o => o.2.2.1) hx
  rw [e1, e2]
  exact h
theorem p4_apart {vx : Nat → Int32} {fx : Nat → Nat → Int32} {gx : Nat → Nat → Int64} (h : TIx vx fx) {r : Int32} {v : Nat → Int32} {f : Nat → Nat → Int32} {g : Nat → Nat → Int64} {p1 p2 p3 : Int32} (hx : (r, v, f, g) = xs_apart vx fx gx p1 p2 p3) : TIx v f := by
  have e1 : v = (xs_apart vx fx gx p1 p2 p3).2.1 := congrArg (fun o => o.2.1) hx
  have e2 : f = (xs_apart vx fx gx p1 p2 p3).2.2.1 := congrArg (fun o => o.2.2.1) hx
  rw [e1, e2]
  exact h
theorem p4_trusted {vx : Nat → Int32} {fx : Nat → Nat → Int32} {gx : Nat → Nat → Int64} (h : TIx vx fx) {r : Int32} {v : Nat → Int32} {f : Nat → Nat → Int32} {g : Nat → Nat → Int64} {p1 p2 : Int32} (hx : (r, v, f, g) = xs_trusted vx fx gx p1 p2) : TIx v f := by
  have e1 : v = (xs_trusted vx fx gx p1 p2).2.1 := congrArg (fun o => o.2.1) hx
  have e2 : f = (xs_trusted vx fx gx p1 p2).2.2.1 := congrArg (fun o => o.2.2.1) hx
  rw [e1, e2]
  exact h
theorem p4_both {vx : Nat → Int32} {fx : Nat → Nat → Int32} {gx : Nat → Nat → Int64} (h : TIx vx fx) {r : Int32} {v : Nat → Int32} {f : Nat → Nat → Int32} {g : Nat → Nat → Int64} {p1 p2 : Int32} (hx : (r, v, f, g) = xs_both vx fx gx p1 p2) : TIx v f := by
  have e1 : v = (xs_both vx fx gx p1 p2).2.1 := congrArg (fun o => o.2.1) hx
  have e2 : f = (xs_both vx fx gx p1 p2).2.2.1 := congrArg (fun o => o.2.2.1) hx
  rw [e1, e2]
  exact h
theorem p4_backed {vx : Nat → Int32} {fx : Nat → Nat → Int32} {gx : Nat → Nat → Int64} (h : TIx vx fx) {r : Int32} {v : Nat → Int32} {f : Nat → Nat → Int32} {g : Nat → Nat → Int64} {p1 p2 : Int32} (hx : (r, v, f, g) = xs_backed vx fx gx p1 p2) : TIx v f := by
  have e1 : v = (xs_backed vx fx gx p1 p2).2.1 := congrArg (fun o => o.2.1) hx
  have e2 : f = (xs_backed vx fx gx p1 p2).2.2.1 := congrArg (fun o => o.2.2.1) hx
  rw [e1, e2]
  exact h
theorem p4_octet {vx : Nat → Int32} {fx : Nat → Nat → Int32} {gx : Nat → Nat → Int64} (h : TIx vx fx) {r : Int32} {v : Nat → Int32} {f : Nat → Nat → Int32} {g : Nat → Nat → Int64} {p1 : Int32} (hx : (r, v, f, g) = xs_octet vx fx gx p1) : TIx v f := by
  have e1 : v = (xs_octet vx fx gx p1).2.1 := congrArg (fun o => o.2.1) hx
  have e2 : f = (xs_octet vx fx gx p1).2.2.1 := congrArg (fun o => o.2.2.1) hx
  rw [e1, e2]
  exact h
theorem p4_judged {vx : Nat → Int32} {fx : Nat → Nat → Int32} {gx : Nat → Nat → Int64} (h : TIx vx fx) {r : Int32} {v : Nat → Int32} {f : Nat → Nat → Int32} {g : Nat → Nat → Int64} {p1 p2 : Int32} (hx : (r, v, f, g) = xs_judged vx fx gx p1 p2) : TIx v f := by
  have h0 : K3 (vx 3) (fx 6) (vx 3) (fx 6) := k3_0
  have key : Wr (fun o : Int32 × Int32 × Int32 × Int32 × Int32 × Int32 × Int32 × Int32 × Int32 × (Nat → Int32) × (Nat → Int32) × (Nat → Int64) × (Nat → Int32) × (Nat → Int32) × (Nat → Int32) => K3 (vx 3) (fx 6) o.2.2.2.1 o.2.2.2.2.2.2.2.2.2.2.2.2.2.1) (fX11_judged (vx 1) (vx 2) (vx 3) (vx 44) (vx 45) (fx 3) (fx 4) (gx 0) (fx 5) (vx 46) (vx 47) (vx 48) (fx 6) (fx 7) (vx 11) (vx 12) (vx 13) (vx 15) (vx 16) (vx 17) (vx 19) (fx 22) (fx 23) (fx 24) (fx 25) (fx 26) (fx 27) (fx 28) (fx 29) p1 p2) := by
    unfold fX11_judged
    repeat' (first | with_reducible refine wr_cb h0 (fun _ hp => ?_) | with_reducible refine wr_cb hp (fun _ hp => ?_) | with_reducible refine wr_eb h0 (fun _ hp => ?_) | with_reducible refine wr_eb hp (fun _ hp => ?_) | with_reducible refine wr_ite (fun _ => ?_) (fun _ => ?_) | with_reducible refine wr_cal (fun _ _ => ?_) | unfold bfX11_judged_16 | exact hp | exact h0)
  have e1 : v = (xs_judged vx fx gx p1 p2).2.1 := congrArg (fun o => o.2.1) hx
  have e2 : f = (xs_judged vx fx gx p1 p2).2.2.1 := congrArg (fun o => o.2.2.1) hx
  rw [e1, e2]
  exact t3_ct h key
theorem p4_taken {vx : Nat → Int32} {fx : Nat → Nat → Int32} {gx : Nat → Nat → Int64} (h : TIx vx fx) {r : Int32} {v : Nat → Int32} {f : Nat → Nat → Int32} {g : Nat → Nat → Int64} {p1 : Int32} (hx : (r, v, f, g) = xs_taken vx fx gx p1) : TIx v f := by
  have h0 : K3 (vx 3) (fx 6) (vx 3) (fx 6) := k3_0
  have key : Wr (fun o : Int32 × Int32 × Int32 × Int32 × Int32 × Int32 × Int32 × Int32 × Int32 × (Nat → Int32) × (Nat → Int32) × (Nat → Int64) × (Nat → Int32) × (Nat → Int32) × (Nat → Int32) => K3 (vx 3) (fx 6) o.2.2.2.1 o.2.2.2.2.2.2.2.2.2.2.2.2.2.1) (fX11_taken (vx 1) (vx 2) (vx 3) (vx 44) (vx 45) (fx 3) (fx 4) (gx 0) (fx 5) (vx 46) (vx 47) (vx 48) (fx 6) (fx 7) (vx 11) (vx 12) (vx 13) (vx 15) (vx 16) (vx 17) (vx 19) (fx 22) (fx 23) (fx 24) (fx 25) (fx 26) (fx 27) (fx 28) (fx 29) p1) := by
    unfold fX11_taken
    repeat' (first | with_reducible refine wr_cb h0 (fun _ hp => ?_) | with_reducible refine wr_cb hp (fun _ hp => ?_) | with_reducible refine wr_eb h0 (fun _ hp => ?_) | with_reducible refine wr_eb hp (fun _ hp => ?_) | with_reducible refine wr_ite (fun _ => ?_) (fun _ => ?_) | with_reducible refine wr_cal (fun _ _ => ?_) | unfold bfX11_taken_24 | exact hp | exact h0)
  have e1 : v = (xs_taken vx fx gx p1).2.1 := congrArg (fun o => o.2.1) hx
  have e2 : f = (xs_taken vx fx gx p1).2.2.1 := congrArg (fun o => o.2.2.1) hx
  rw [e1, e2]
  exact t3_ct h key
theorem p4_order {vx : Nat → Int32} {fx : Nat → Nat → Int32} {gx : Nat → Nat → Int64} (h : TIx vx fx) {r : Int32} {v : Nat → Int32} {f : Nat → Nat → Int32} {g : Nat → Nat → Int64} {p1 p2 : Int32} (hx : (r, v, f, g) = xs_order vx fx gx p1 p2) : TIx v f := by
  have h0 : K3 (vx 3) (fx 6) (vx 3) (fx 6) := k3_0
  have key : Wr (fun o : Int32 × Int32 × Int32 × Int32 × Int32 × Int32 × Int32 × Int32 × Int32 × (Nat → Int32) × (Nat → Int32) × (Nat → Int64) × (Nat → Int32) × (Nat → Int32) × (Nat → Int32) => K3 (vx 3) (fx 6) o.2.2.2.1 o.2.2.2.2.2.2.2.2.2.2.2.2.2.1) (fX11_order (vx 1) (vx 2) (vx 3) (vx 44) (vx 45) (fx 3) (fx 4) (gx 0) (fx 5) (vx 46) (vx 47) (vx 48) (fx 6) (fx 7) (vx 11) (vx 12) (vx 13) (vx 15) (vx 16) (vx 17) (vx 19) (fx 22) (fx 23) (fx 24) (fx 25) (fx 26) (fx 27) (fx 28) (fx 29) p1 p2) := by
    unfold fX11_order
    repeat' (first | with_reducible refine wr_cb h0 (fun _ hp => ?_) | with_reducible refine wr_cb hp (fun _ hp => ?_) | with_reducible refine wr_eb h0 (fun _ hp => ?_) | with_reducible refine wr_eb hp (fun _ hp => ?_) | with_reducible refine wr_ite (fun _ => ?_) (fun _ => ?_) | with_reducible refine wr_cal (fun _ _ => ?_) | unfold bfX11_order_12 | unfold bfX11_order_39 | exact hp | exact h0)
  have e1 : v = (xs_order vx fx gx p1 p2).2.1 := congrArg (fun o => o.2.1) hx
  have e2 : f = (xs_order vx fx gx p1 p2).2.2.1 := congrArg (fun o => o.2.2.1) hx
  rw [e1, e2]
  exact t3_ct h key
theorem kt_against {t0 : Int32} {a0 : Nat → Int32} {x_courtStands : Int32} {x_courtNews : Int32} {x_tallyStands : Int32} {c_queueLength : Int32} {c_takenBits : Int32} {fve : Nat → Int32} {fqu : Nat → Int32} {ftu : Nat → Int64} {fcb : Nat → Int32} {fmonths : Int32} {ffull : Int32} {flean : Int32} {ffal : Nat → Int32} {ffon : Nat → Int32} {efmonths : Int32} {effull : Int32} {eflean : Int32} {fefal : Nat → Int32} {fefon : Nat → Int32} {amonths : Int32} {afull : Int32} {alean : Int32} {ahasMoon : Int32} {amoonStart : Int32} {amoonStep : Int32} {areportCount : Int32} {p_name : Nat → Int32} {p_trust : Nat → Int32} {r_place : Nat → Int32} {r_kind : Nat → Int32} {r_month : Nat → Int32} {r_day : Nat → Int32} {r_known : Nat → Int32} {r_struck : Nat → Int32} {p1 : Int32} {p2 : Int32} : ∀ z : Nat, (∀ (v4 : Int32) (v5 : Int32) (w0_12 : Int32) (w0_13 : Int32) (w0_14 : Int32) (w1_5 : Int32) (w1_6 : Int32) (w6_0 : Int32) (w6_1 : Int32) (w6_2 : Int32) (w9_0 : Int32) (w9_1 : Int32) (w9_2 : Int32) (z2 : Nat → Int32) (z3 : Nat → Int32) (z4 : Nat → Int64) (z5 : Nat → Int32) (z7 : Nat → Int32) (z8 : Nat → Int32) (z10 : Nat → Int32) (z11 : Nat → Int32), K3 t0 a0 w0_14 z7 → Wr (fun o : Int32 × Int32 × Int32 × Int32 × Int32 × Int32 × Int32 × Int32 × Int32 × Int32 × Int32 × Int32 × (Nat → Int32) × (Nat → Int32) × (Nat → Int64) × (Nat → Int32) × (Nat → Int32) × (Nat → Int32) × (Nat → Int32) × (Nat → Int32) => K3 t0 a0 o.2.2.2.1 o.2.2.2.2.2.2.2.2.2.2.2.2.2.2.2.2.1) ((lfX11_against x_courtStands x_courtNews x_tallyStands c_queueLength c_takenBits fve fqu ftu fcb fmonths ffull flean ffal ffon efmonths effull eflean fefal fefon amonths afull alean ahasMoon amoonStart amoonStep areportCount p_name p_trust r_place r_kind r_month r_day r_known r_struck p1 p2 z) v4 v5 w0_12 w0_13 w0_14 w1_5 w1_6 w6_0 w6_1 w6_2 w9_0 w9_1 w9_2 z2 z3 z4 z5 z7 z8 z10 z11)) := by
  intro z
  induction z with
  | zero => exact fun _ _ _ _ _ _ _ _ _ _ _ _ _ _ _ _ _ _ _ _ _ hp => hp
  | succ z ih =>
    intro v4 v5 w0_12 w0_13 w0_14 w1_5 w1_6 w6_0 w6_1 w6_2 w9_0 w9_1 w9_2 z2 z3 z4 z5 z7 z8 z10 z11 hp
    show Wr _ (dfX11_against_43 x_courtStands x_courtNews x_tallyStands c_queueLength c_takenBits fve fqu ftu fcb fmonths ffull flean ffal ffon efmonths effull eflean fefal fefon amonths afull alean ahasMoon amoonStart amoonStep areportCount p_name p_trust r_place r_kind r_month r_day r_known r_struck p1 p2 (lfX11_against x_courtStands x_courtNews x_tallyStands c_queueLength c_takenBits fve fqu ftu fcb fmonths ffull flean ffal ffon efmonths effull eflean fefal fefon amonths afull alean ahasMoon amoonStart amoonStep areportCount p_name p_trust r_place r_kind r_month r_day r_known r_struck p1 p2 z) v4 v5 w0_12 w0_13 w0_14 w1_5 w1_6 w6_0 w6_1 w6_2 w9_0 w9_1 w9_2 z2 z3 z4 z5 z7 z8 z10 z11)
    unfold dfX11_against_43
    repeat' (first | with_reducible refine wr_cb hp (fun _ hp => ?_) | with_reducible refine wr_ite (fun _ => ?_) (fun _ => ?_) | with_reducible refine wr_cal (fun _ _ => ?_) | unfold bfX11_against_16 | unfold bfX11_against_84 | with_reducible exact ih _ _ _ _ _ _ _ _ _ _ _ _ _ _ _ _ _ _ _ _ _ hp | exact hp)
theorem p4_against {vx : Nat → Int32} {fx : Nat → Nat → Int32} {gx : Nat → Nat → Int64} (h : TIx vx fx) {r : Int32} {v : Nat → Int32} {f : Nat → Nat → Int32} {g : Nat → Nat → Int64} {p1 p2 : Int32} (hx : (r, v, f, g) = xs_against vx fx gx p1 p2) : TIx v f := by
  have h0 : K3 (vx 3) (fx 6) (vx 3) (fx 6) := k3_0
  have key : Wr (fun o : Int32 × Int32 × Int32 × Int32 × Int32 × Int32 × Int32 × Int32 × Int32 × Int32 × Int32 × Int32 × (Nat → Int32) × (Nat → Int32) × (Nat → Int64) × (Nat → Int32) × (Nat → Int32) × (Nat → Int32) × (Nat → Int32) × (Nat → Int32) => K3 (vx 3) (fx 6) o.2.2.2.1 o.2.2.2.2.2.2.2.2.2.2.2.2.2.2.2.2.1) (fX11_against (vx 1) (vx 2) (vx 3) (vx 44) (vx 45) (fx 3) (fx 4) (gx 0) (fx 5) (vx 46) (vx 47) (vx 48) (fx 6) (fx 7) (vx 41) (vx 42) (vx 43) (fx 1) (fx 2) (vx 11) (vx 12) (vx 13) (vx 15) (vx 16) (vx 17) (vx 19) (fx 22) (fx 23) (fx 24) (fx 25) (fx 26) (fx 27) (fx 28) (fx 29) p1 p2) := by
    unfold fX11_against
    repeat' (first | with_reducible refine wr_cb h0 (fun _ hp => ?_) | with_reducible refine wr_cb hp (fun _ hp => ?_) | with_reducible refine wr_eb h0 (fun _ hp => ?_) | with_reducible refine wr_eb hp (fun _ hp => ?_) | with_reducible refine wr_ite (fun _ => ?_) (fun _ => ?_) | with_reducible refine wr_cal (fun _ _ => ?_) | unfold bfX11_against_16 | unfold bfX11_against_84 | exact (kt_against _) _ _ _ _ _ _ _ _ _ _ _ _ _ _ _ _ _ _ _ _ _ hp | exact hp | exact h0)
  have e1 : v = (xs_against vx fx gx p1 p2).2.1 := congrArg (fun o => o.2.1) hx
  have e2 : f = (xs_against vx fx gx p1 p2).2.2.1 := congrArg (fun o => o.2.2.1) hx
  rw [e1, e2]
  exact t3_ct h key
theorem p4_begin {vx : Nat → Int32} {fx : Nat → Nat → Int32} {gx : Nat → Nat → Int64} (h : TIx vx fx) {r : Int32} {v : Nat → Int32} {f : Nat → Nat → Int32} {g : Nat → Nat → Int64} {p1 p2 : Int32} (hx : (r, v, f, g) = xs_begin vx fx gx p1 p2) : TIx v f := by
  have h0 : K3 (vx 3) (fx 6) (vx 3) (fx 6) := k3_0
  have key : Wr (fun o : Int32 × Int32 × Int32 × Int32 × Int32 × Int32 × Int32 × Int32 × Int32 × (Nat → Int32) × (Nat → Int32) × (Nat → Int64) × (Nat → Int32) × (Nat → Int32) × (Nat → Int32) => K3 (vx 3) (fx 6) o.2.2.2.1 o.2.2.2.2.2.2.2.2.2.2.2.2.2.1) (fX11_begin (vx 1) (vx 2) (vx 3) (vx 44) (vx 45) (fx 3) (fx 4) (gx 0) (fx 5) (vx 46) (vx 47) (vx 48) (fx 6) (fx 7) (vx 11) (vx 12) (vx 13) (vx 15) (vx 16) (vx 17) (vx 19) (fx 22) (fx 23) (fx 24) (fx 25) (fx 26) (fx 27) (fx 28) (fx 29) p1 p2) := by
    unfold fX11_begin
    repeat' (first | with_reducible refine wr_cb h0 (fun _ hp => ?_) | with_reducible refine wr_cb hp (fun _ hp => ?_) | with_reducible refine wr_eb h0 (fun _ hp => ?_) | with_reducible refine wr_eb hp (fun _ hp => ?_) | with_reducible refine wr_ite (fun _ => ?_) (fun _ => ?_) | with_reducible refine wr_cal (fun _ _ => ?_) | unfold bfX11_begin_24 | exact hp | exact h0)
  have e1 : v = (xs_begin vx fx gx p1 p2).2.1 := congrArg (fun o => o.2.1) hx
  have e2 : f = (xs_begin vx fx gx p1 p2).2.2.1 := congrArg (fun o => o.2.2.1) hx
  rw [e1, e2]
  exact t3_ct h key
theorem p4_lasts {vx : Nat → Int32} {fx : Nat → Nat → Int32} {gx : Nat → Nat → Int64} (h : TIx vx fx) {r : Int32} {v : Nat → Int32} {f : Nat → Nat → Int32} {g : Nat → Nat → Int64} {p1 p2 : Int32} (hx : (r, v, f, g) = xs_lasts vx fx gx p1 p2) : TIx v f := by
  have h0 : K3 (vx 3) (fx 6) (vx 3) (fx 6) := k3_0
  have key : Wr (fun o : Int32 × Int32 × Int32 × Int32 × Int32 × Int32 × Int32 × Int32 × Int32 × (Nat → Int32) × (Nat → Int32) × (Nat → Int64) × (Nat → Int32) × (Nat → Int32) × (Nat → Int32) => K3 (vx 3) (fx 6) o.2.2.2.1 o.2.2.2.2.2.2.2.2.2.2.2.2.2.1) (fX11_lasts (vx 1) (vx 2) (vx 3) (vx 44) (vx 45) (fx 3) (fx 4) (gx 0) (fx 5) (vx 46) (vx 47) (vx 48) (fx 6) (fx 7) (vx 11) (vx 12) (vx 13) (vx 15) (vx 16) (vx 17) (vx 19) (fx 22) (fx 23) (fx 24) (fx 25) (fx 26) (fx 27) (fx 28) (fx 29) p1 p2) := by
    unfold fX11_lasts
    repeat' (first | with_reducible refine wr_cb h0 (fun _ hp => ?_) | with_reducible refine wr_cb hp (fun _ hp => ?_) | with_reducible refine wr_eb h0 (fun _ hp => ?_) | with_reducible refine wr_eb hp (fun _ hp => ?_) | with_reducible refine wr_ite (fun _ => ?_) (fun _ => ?_) | with_reducible refine wr_cal (fun _ _ => ?_) | unfold bfX11_lasts_26 | exact hp | exact h0)
  have e1 : v = (xs_lasts vx fx gx p1 p2).2.1 := congrArg (fun o => o.2.1) hx
  have e2 : f = (xs_lasts vx fx gx p1 p2).2.2.1 := congrArg (fun o => o.2.2.1) hx
  rw [e1, e2]
  exact t3_ct h key
theorem p4_day {vx : Nat → Int32} {fx : Nat → Nat → Int32} {gx : Nat → Nat → Int64} (h : TIx vx fx) {r : Int32} {v : Nat → Int32} {f : Nat → Nat → Int32} {g : Nat → Nat → Int64} {p1 p2 p3 : Int32} (hx : (r, v, f, g) = xs_day vx fx gx p1 p2 p3) : TIx v f := by
  have h0 : K3 (vx 3) (fx 6) (vx 3) (fx 6) := k3_0
  have key : Wr (fun o : Int32 × Int32 × Int32 × Int32 × Int32 × Int32 × Int32 × Int32 × Int32 × (Nat → Int32) × (Nat → Int32) × (Nat → Int64) × (Nat → Int32) × (Nat → Int32) × (Nat → Int32) => K3 (vx 3) (fx 6) o.2.2.2.1 o.2.2.2.2.2.2.2.2.2.2.2.2.2.1) (fX11_day (vx 1) (vx 2) (vx 3) (vx 44) (vx 45) (fx 3) (fx 4) (gx 0) (fx 5) (vx 46) (vx 47) (vx 48) (fx 6) (fx 7) (vx 11) (vx 12) (vx 13) (vx 15) (vx 16) (vx 17) (vx 19) (fx 22) (fx 23) (fx 24) (fx 25) (fx 26) (fx 27) (fx 28) (fx 29) p1 p2 p3) := by
    unfold fX11_day
    repeat' (first | with_reducible refine wr_cb h0 (fun _ hp => ?_) | with_reducible refine wr_cb hp (fun _ hp => ?_) | with_reducible refine wr_eb h0 (fun _ hp => ?_) | with_reducible refine wr_eb hp (fun _ hp => ?_) | with_reducible refine wr_ite (fun _ => ?_) (fun _ => ?_) | with_reducible refine wr_cal (fun _ _ => ?_) | unfold bfX11_day_17 | exact hp | exact h0)
  have e1 : v = (xs_day vx fx gx p1 p2 p3).2.1 := congrArg (fun o => o.2.1) hx
  have e2 : f = (xs_day vx fx gx p1 p2 p3).2.2.1 := congrArg (fun o => o.2.2.1) hx
  rw [e1, e2]
  exact t3_ct h key
theorem kt_date {t0 : Int32} {a0 : Nat → Int32} {x_courtStands : Int32} {x_courtNews : Int32} {x_tallyStands : Int32} {c_queueLength : Int32} {c_takenBits : Int32} {fve : Nat → Int32} {fqu : Nat → Int32} {ftu : Nat → Int64} {fcb : Nat → Int32} {fmonths : Int32} {ffull : Int32} {flean : Int32} {ffal : Nat → Int32} {ffon : Nat → Int32} {amonths : Int32} {afull : Int32} {alean : Int32} {ahasMoon : Int32} {amoonStart : Int32} {amoonStep : Int32} {areportCount : Int32} {p_name : Nat → Int32} {p_trust : Nat → Int32} {r_place : Nat → Int32} {r_kind : Nat → Int32} {r_month : Nat → Int32} {r_day : Nat → Int32} {r_known : Nat → Int32} {r_struck : Nat → Int32} {p1 : Int32} {p2 : Int32} : ∀ z : Nat, (∀ (v4 : Int32) (w0_12 : Int32) (w0_13 : Int32) (w0_14 : Int32) (w1_5 : Int32) (w1_6 : Int32) (w6_0 : Int32) (w6_1 : Int32) (w6_2 : Int32) (z2 : Nat → Int32) (z3 : Nat → Int32) (z4 : Nat → Int64) (z5 : Nat → Int32) (z7 : Nat → Int32) (z8 : Nat → Int32), K3 t0 a0 w0_14 z7 → Wr (fun o : Int32 × Int32 × Int32 × Int32 × Int32 × Int32 × Int32 × Int32 × Int32 × (Nat → Int32) × (Nat → Int32) × (Nat → Int64) × (Nat → Int32) × (Nat → Int32) × (Nat → Int32) => K3 t0 a0 o.2.2.2.1 o.2.2.2.2.2.2.2.2.2.2.2.2.2.1) ((lfX11_date x_courtStands x_courtNews x_tallyStands c_queueLength c_takenBits fve fqu ftu fcb fmonths ffull flean ffal ffon amonths afull alean ahasMoon amoonStart amoonStep areportCount p_name p_trust r_place r_kind r_month r_day r_known r_struck p1 p2 z) v4 w0_12 w0_13 w0_14 w1_5 w1_6 w6_0 w6_1 w6_2 z2 z3 z4 z5 z7 z8)) := by
  intro z
  induction z with
  | zero => exact fun _ _ _ _ _ _ _ _ _ _ _ _ _ _ _ hp => hp
  | succ z ih =>
    intro v4 w0_12 w0_13 w0_14 w1_5 w1_6 w6_0 w6_1 w6_2 z2 z3 z4 z5 z7 z8 hp
    show Wr _ (dfX11_date_34 x_courtStands x_courtNews x_tallyStands c_queueLength c_takenBits fve fqu ftu fcb fmonths ffull flean ffal ffon amonths afull alean ahasMoon amoonStart amoonStep areportCount p_name p_trust r_place r_kind r_month r_day r_known r_struck p1 p2 (lfX11_date x_courtStands x_courtNews x_tallyStands c_queueLength c_takenBits fve fqu ftu fcb fmonths ffull flean ffal ffon amonths afull alean ahasMoon amoonStart amoonStep areportCount p_name p_trust r_place r_kind r_month r_day r_known r_struck p1 p2 z) v4 w0_12 w0_13 w0_14 w1_5 w1_6 w6_0 w6_1 w6_2 z2 z3 z4 z5 z7 z8)
    unfold dfX11_date_34
    repeat' (first | with_reducible refine wr_cb hp (fun _ hp => ?_) | with_reducible refine wr_ite (fun _ => ?_) (fun _ => ?_) | with_reducible refine wr_cal (fun _ _ => ?_) | unfold bfX11_date_19 | with_reducible exact ih _ _ _ _ _ _ _ _ _ _ _ _ _ _ _ hp | exact hp)
theorem p4_date {vx : Nat → Int32} {fx : Nat → Nat → Int32} {gx : Nat → Nat → Int64} (h : TIx vx fx) {r : Int32} {v : Nat → Int32} {f : Nat → Nat → Int32} {g : Nat → Nat → Int64} {p1 p2 : Int32} (hx : (r, v, f, g) = xs_date vx fx gx p1 p2) : TIx v f := by
  have h0 : K3 (vx 3) (fx 6) (vx 3) (fx 6) := k3_0
  have key : Wr (fun o : Int32 × Int32 × Int32 × Int32 × Int32 × Int32 × Int32 × Int32 × Int32 × (Nat → Int32) × (Nat → Int32) × (Nat → Int64) × (Nat → Int32) × (Nat → Int32) × (Nat → Int32) => K3 (vx 3) (fx 6) o.2.2.2.1 o.2.2.2.2.2.2.2.2.2.2.2.2.2.1) (fX11_date (vx 1) (vx 2) (vx 3) (vx 44) (vx 45) (fx 3) (fx 4) (gx 0) (fx 5) (vx 46) (vx 47) (vx 48) (fx 6) (fx 7) (vx 11) (vx 12) (vx 13) (vx 15) (vx 16) (vx 17) (vx 19) (fx 22) (fx 23) (fx 24) (fx 25) (fx 26) (fx 27) (fx 28) (fx 29) p1 p2) := by
    unfold fX11_date
    repeat' (first | with_reducible refine wr_cb h0 (fun _ hp => ?_) | with_reducible refine wr_cb hp (fun _ hp => ?_) | with_reducible refine wr_eb h0 (fun _ hp => ?_) | with_reducible refine wr_eb hp (fun _ hp => ?_) | with_reducible refine wr_ite (fun _ => ?_) (fun _ => ?_) | with_reducible refine wr_cal (fun _ _ => ?_) | unfold bfX11_date_19 | exact (kt_date _) _ _ _ _ _ _ _ _ _ _ _ _ _ _ _ hp | exact hp | exact h0)
  have e1 : v = (xs_date vx fx gx p1 p2).2.1 := congrArg (fun o => o.2.1) hx
  have e2 : f = (xs_date vx fx gx p1 p2).2.2.1 := congrArg (fun o => o.2.2.1) hx
  rw [e1, e2]
  exact t3_ct h key
theorem p4_moved {vx : Nat → Int32} {fx : Nat → Nat → Int32} {gx : Nat → Nat → Int64} (h : TIx vx fx) {r : Int32} {v : Nat → Int32} {f : Nat → Nat → Int32} {g : Nat → Nat → Int64} {p1 p2 p3 : Int32} (hx : (r, v, f, g) = xs_moved vx fx gx p1 p2 p3) : TIx v f := by
  have h0 : K3 (vx 3) (fx 6) (vx 3) (fx 6) := k3_0
  have key : Wr (fun o : Int32 × Int32 × Int32 × Int32 × Int32 × Int32 × Int32 × Int32 × Int32 × (Nat → Int32) × (Nat → Int32) × (Nat → Int64) × (Nat → Int32) × (Nat → Int32) × (Nat → Int32) => K3 (vx 3) (fx 6) o.2.2.2.1 o.2.2.2.2.2.2.2.2.2.2.2.2.2.1) (fX11_moved (vx 1) (vx 2) (vx 3) (vx 44) (vx 45) (fx 3) (fx 4) (gx 0) (fx 5) (vx 46) (vx 47) (vx 48) (fx 6) (fx 7) (vx 11) (vx 12) (vx 13) (vx 15) (vx 16) (vx 17) (vx 19) (fx 22) (fx 23) (fx 24) (fx 25) (fx 26) (fx 27) (fx 28) (fx 29) p1 p2 p3) := by
    unfold fX11_moved
    repeat' (first | with_reducible refine wr_cb h0 (fun _ hp => ?_) | with_reducible refine wr_cb hp (fun _ hp => ?_) | with_reducible refine wr_eb h0 (fun _ hp => ?_) | with_reducible refine wr_eb hp (fun _ hp => ?_) | with_reducible refine wr_ite (fun _ => ?_) (fun _ => ?_) | with_reducible refine wr_cal (fun _ _ => ?_) | unfold bfX11_moved_32 | exact hp | exact h0)
  have e1 : v = (xs_moved vx fx gx p1 p2 p3).2.1 := congrArg (fun o => o.2.1) hx
  have e2 : f = (xs_moved vx fx gx p1 p2 p3).2.2.1 := congrArg (fun o => o.2.2.1) hx
  rw [e1, e2]
  exact t3_ct h key
theorem p4_due {vx : Nat → Int32} {fx : Nat → Nat → Int32} {gx : Nat → Nat → Int64} (h : TIx vx fx) {r : Int32} {v : Nat → Int32} {f : Nat → Nat → Int32} {g : Nat → Nat → Int64} {p1 p2 : Int32} (hx : (r, v, f, g) = xs_due vx fx gx p1 p2) : TIx v f := by
  have h0 : K3 (vx 3) (fx 6) (vx 3) (fx 6) := k3_0
  have key : Wr (fun o : Int32 × Int32 × Int32 × Int32 × Int32 × Int32 × Int32 × Int32 × Int32 × (Nat → Int32) × (Nat → Int32) × (Nat → Int64) × (Nat → Int32) × (Nat → Int32) × (Nat → Int32) => K3 (vx 3) (fx 6) o.2.2.2.1 o.2.2.2.2.2.2.2.2.2.2.2.2.2.1) (fX11_due (vx 1) (vx 2) (vx 3) (vx 44) (vx 45) (fx 3) (fx 4) (gx 0) (fx 5) (vx 46) (vx 47) (vx 48) (fx 6) (fx 7) (vx 11) (vx 12) (vx 13) (vx 15) (vx 16) (vx 17) (vx 19) (vx 20) (fx 22) (fx 23) (fx 24) (fx 25) (fx 26) (fx 27) (fx 28) (fx 29) (fx 30) (fx 31) (fx 32) (fx 33) p1 p2) := by
    unfold fX11_due
    repeat' (first | with_reducible refine wr_cb h0 (fun _ hp => ?_) | with_reducible refine wr_cb hp (fun _ hp => ?_) | with_reducible refine wr_eb h0 (fun _ hp => ?_) | with_reducible refine wr_eb hp (fun _ hp => ?_) | with_reducible refine wr_ite (fun _ => ?_) (fun _ => ?_) | with_reducible refine wr_cal (fun _ _ => ?_) | unfold bfX11_due_16 | exact hp | exact h0)
  have e1 : v = (xs_due vx fx gx p1 p2).2.1 := congrArg (fun o => o.2.1) hx
  have e2 : f = (xs_due vx fx gx p1 p2).2.2.1 := congrArg (fun o => o.2.2.1) hx
  rw [e1, e2]
  exact t3_ct h key
abbrev K20 (t0 : Int32) (a0 : Nat → Int32) (o : Q20s) : Prop := K3 t0 a0 o.2.2.2.1 o.2.2.2.2.2.2.2.2.2.2.2.2.2.2.2.2.1
theorem k3_ll {t0 : Int32} {a0 : Nat → Int32} {x_courtStands : Int32} {x_courtNews : Int32} {x_tallyStands : Int32} {c_queueLength : Int32} {c_takenBits : Int32} {fve : Nat → Int32} {fqu : Nat → Int32} {ftu : Nat → Int64} {fcb : Nat → Int32} {fmonths : Int32} {ffull : Int32} {flean : Int32} {ffal : Nat → Int32} {ffon : Nat → Int32} {fco_ : Nat → Int32} {fle_ : Nat → Int32} {amonths : Int32} {afull : Int32} {alean : Int32} {ahasMoon : Int32} {amoonStart : Int32} {amoonStep : Int32} {areportCount : Int32} {d1_month : Int32} {d1_day : Int32} {d1_length : Int32} {d1_inDays : Int32} {d2_month : Int32} {d2_day : Int32} {d2_length : Int32} {d2_inDays : Int32} {p_name : Nat → Int32} {p_trust : Nat → Int32} {r_place : Nat → Int32} {r_kind : Nat → Int32} {r_month : Nat → Int32} {r_day : Nat → Int32} {r_known : Nat → Int32} {r_struck : Nat → Int32} {p1 : Int32} (hK : K3 t0 a0 x_tallyStands ffal) : ∀ z : Nat, (∀ v0_ v1_ v2_ v3_, Wr (K20 t0 a0) ((lfX11_leastLead x_courtStands x_courtNews x_tallyStands c_queueLength c_takenBits fve fqu ftu fcb fmonths ffull flean ffal ffon fco_ fle_ amonths afull alean ahasMoon amoonStart amoonStep areportCount d1_month d1_day d1_length d1_inDays d2_month d2_day d2_length d2_inDays p_name p_trust r_place r_kind r_month r_day r_known r_struck p1 z).1 v0_ v1_ v2_ v3_)) ∧ (∀ v0_ v1_ v2_, Wr (K20 t0 a0) ((lfX11_leastLead x_courtStands x_courtNews x_tallyStands c_queueLength c_takenBits fve fqu ftu fcb fmonths ffull flean ffal ffon fco_ fle_ amonths afull alean ahasMoon amoonStart amoonStep areportCount d1_month d1_day d1_length d1_inDays d2_month d2_day d2_length d2_inDays p_name p_trust r_place r_kind r_month r_day r_known r_struck p1 z).2 v0_ v1_ v2_)) := by
  intro z
  induction z with
  | zero => exact ⟨fun _ _ _ _ => Or.inl rfl, fun _ _ _ => Or.inl rfl⟩
  | succ z ih =>
    refine ⟨?_, ?_⟩
    · intro v0_ v1_ v2_ v3_
      show Wr (K20 t0 a0) (dfX11_leastLead_22 x_courtStands x_courtNews x_tallyStands c_queueLength c_takenBits fve fqu ftu fcb fmonths ffull flean ffal ffon fco_ fle_ amonths afull alean ahasMoon amoonStart amoonStep areportCount d1_month d1_day d1_length d1_inDays d2_month d2_day d2_length d2_inDays p_name p_trust r_place r_kind r_month r_day r_known r_struck p1 (lfX11_leastLead x_courtStands x_courtNews x_tallyStands c_queueLength c_takenBits fve fqu ftu fcb fmonths ffull flean ffal ffon fco_ fle_ amonths afull alean ahasMoon amoonStart amoonStep areportCount d1_month d1_day d1_length d1_inDays d2_month d2_day d2_length d2_inDays p_name p_trust r_place r_kind r_month r_day r_known r_struck p1 z) v0_ v1_ v2_ v3_)
      unfold dfX11_leastLead_22
      repeat' (first | with_reducible refine wr_cb hK (fun _ hp => ?_) | with_reducible refine wr_ite (fun _ => ?_) (fun _ => ?_) | with_reducible refine wr_cal (fun _ _ => ?_) | with_reducible exact ih.1 _ _ _ _ | with_reducible exact ih.2 _ _ _ | exact hp | exact hK)
    · intro v0_ v1_ v2_
      show Wr (K20 t0 a0) (dfX11_leastLead_56 x_courtStands x_courtNews x_tallyStands c_queueLength c_takenBits fve fqu ftu fcb fmonths ffull flean ffal ffon fco_ fle_ amonths afull alean ahasMoon amoonStart amoonStep areportCount d1_month d1_day d1_length d1_inDays d2_month d2_day d2_length d2_inDays p_name p_trust r_place r_kind r_month r_day r_known r_struck p1 (lfX11_leastLead x_courtStands x_courtNews x_tallyStands c_queueLength c_takenBits fve fqu ftu fcb fmonths ffull flean ffal ffon fco_ fle_ amonths afull alean ahasMoon amoonStart amoonStep areportCount d1_month d1_day d1_length d1_inDays d2_month d2_day d2_length d2_inDays p_name p_trust r_place r_kind r_month r_day r_known r_struck p1 z) v0_ v1_ v2_)
      unfold dfX11_leastLead_56
      repeat' (first | with_reducible refine wr_cb hK (fun _ hp => ?_) | with_reducible refine wr_ite (fun _ => ?_) (fun _ => ?_) | with_reducible refine wr_cal (fun _ _ => ?_) | with_reducible exact ih.1 _ _ _ _ | with_reducible exact ih.2 _ _ _ | exact hp | exact hK)
theorem k3_ll0 {t0 : Int32} {a0 : Nat → Int32} {x_courtStands : Int32} {x_courtNews : Int32} {x_tallyStands : Int32} {c_queueLength : Int32} {c_takenBits : Int32} {fve : Nat → Int32} {fqu : Nat → Int32} {ftu : Nat → Int64} {fcb : Nat → Int32} {fmonths : Int32} {ffull : Int32} {flean : Int32} {ffal : Nat → Int32} {ffon : Nat → Int32} {fco_ : Nat → Int32} {fle_ : Nat → Int32} {amonths : Int32} {afull : Int32} {alean : Int32} {ahasMoon : Int32} {amoonStart : Int32} {amoonStep : Int32} {areportCount : Int32} {d1_month : Int32} {d1_day : Int32} {d1_length : Int32} {d1_inDays : Int32} {d2_month : Int32} {d2_day : Int32} {d2_length : Int32} {d2_inDays : Int32} {p_name : Nat → Int32} {p_trust : Nat → Int32} {r_place : Nat → Int32} {r_kind : Nat → Int32} {r_month : Nat → Int32} {r_day : Nat → Int32} {r_known : Nat → Int32} {r_struck : Nat → Int32} {p1 : Int32} (hK : K3 t0 a0 x_tallyStands ffal) : Wr (K20 t0 a0) (fX11_leastLead x_courtStands x_courtNews x_tallyStands c_queueLength c_takenBits fve fqu ftu fcb fmonths ffull flean ffal ffon fco_ fle_ amonths afull alean ahasMoon amoonStart amoonStep areportCount d1_month d1_day d1_length d1_inDays d2_month d2_day d2_length d2_inDays p_name p_trust r_place r_kind r_month r_day r_known r_struck p1) := by
  unfold fX11_leastLead
  refine wr_cal (fun _ _ => wr_cal (fun _ _ => wr_cal (fun _ _ => ?_)))
  exact (k3_ll hK _).1 _ _ _ _
theorem wr_ll {R : Type} {P : R → Prop} {t0 : Int32} {a0 : Nat → Int32} {x_courtStands : Int32} {x_courtNews : Int32} {x_tallyStands : Int32} {c_queueLength : Int32} {c_takenBits : Int32} {fve : Nat → Int32} {fqu : Nat → Int32} {ftu : Nat → Int64} {fcb : Nat → Int32} {fmonths : Int32} {ffull : Int32} {flean : Int32} {ffal : Nat → Int32} {ffon : Nat → Int32} {fco_ : Nat → Int32} {fle_ : Nat → Int32} {amonths : Int32} {afull : Int32} {alean : Int32} {ahasMoon : Int32} {amoonStart : Int32} {amoonStep : Int32} {areportCount : Int32} {d1_month : Int32} {d1_day : Int32} {d1_length : Int32} {d1_inDays : Int32} {d2_month : Int32} {d2_day : Int32} {d2_length : Int32} {d2_inDays : Int32} {p_name : Nat → Int32} {p_trust : Nat → Int32} {r_place : Nat → Int32} {r_kind : Nat → Int32} {r_month : Nat → Int32} {r_day : Nat → Int32} {r_known : Nat → Int32} {r_struck : Nat → Int32} {p1 : Int32} {F : Q20s → R} (hK : K3 t0 a0 x_tallyStands ffal) (hF : ∀ o, K20 t0 a0 o → Wr P (F o)) : Wr P (cal F (fX11_leastLead x_courtStands x_courtNews x_tallyStands c_queueLength c_takenBits fve fqu ftu fcb fmonths ffull flean ffal ffon fco_ fle_ amonths afull alean ahasMoon amoonStart amoonStep areportCount d1_month d1_day d1_length d1_inDays d2_month d2_day d2_length d2_inDays p_name p_trust r_place r_kind r_month r_day r_known r_struck p1)) := hF _ (k3_ll0 hK)
theorem k3_ne {t0 : Int32} {a0 : Nat → Int32} {x_courtStands : Int32} {x_courtNews : Int32} {x_tallyStands : Int32} {c_queueLength : Int32} {c_takenBits : Int32} {fve : Nat → Int32} {fqu : Nat → Int32} {ftu : Nat → Int64} {fcb : Nat → Int32} {fmonths : Int32} {ffull : Int32} {flean : Int32} {ffal : Nat → Int32} {ffon : Nat → Int32} {s_months : Int32} {s_full : Int32} {s_lean : Int32} {fco_ : Nat → Int32} {fle_ : Nat → Int32} {amonths : Int32} {afull : Int32} {alean : Int32} {ahasMoon : Int32} {amoonStart : Int32} {amoonStep : Int32} {areportCount : Int32} {p_name : Nat → Int32} {p_trust : Nat → Int32} {r_place : Nat → Int32} {r_kind : Nat → Int32} {r_month : Nat → Int32} {r_day : Nat → Int32} {r_known : Nat → Int32} {r_struck : Nat → Int32} {p1 : Int32} {p2 : Int32} (hK : K3 t0 a0 x_tallyStands ffal) : ∀ z : Nat, (∀ v0_ v1_, Wr (K20 t0 a0) ((lfX11_nearest x_courtStands x_courtNews x_tallyStands c_queueLength c_takenBits fve fqu ftu fcb fmonths ffull flean ffal ffon s_months s_full s_lean fco_ fle_ amonths afull alean ahasMoon amoonStart amoonStep areportCount p_name p_trust r_place r_kind r_month r_day r_known r_struck p1 p2 z).1 v0_ v1_)) ∧ (∀ v0_ v1_ v2_ v3_, Wr (K20 t0 a0) ((lfX11_nearest x_courtStands x_courtNews x_tallyStands c_queueLength c_takenBits fve fqu ftu fcb fmonths ffull flean ffal ffon s_months s_full s_lean fco_ fle_ amonths afull alean ahasMoon amoonStart amoonStep areportCount p_name p_trust r_place r_kind r_month r_day r_known r_struck p1 p2 z).2 v0_ v1_ v2_ v3_)) := by
  intro z
  induction z with
  | zero => exact ⟨fun _ _ => Or.inl rfl, fun _ _ _ _ => Or.inl rfl⟩
  | succ z ih =>
    refine ⟨?_, ?_⟩
    · intro v0_ v1_
      show Wr (K20 t0 a0) (dfX11_nearest_37 x_courtStands x_courtNews x_tallyStands c_queueLength c_takenBits fve fqu ftu fcb fmonths ffull flean ffal ffon s_months s_full s_lean fco_ fle_ amonths afull alean ahasMoon amoonStart amoonStep areportCount p_name p_trust r_place r_kind r_month r_day r_known r_struck p1 p2 (lfX11_nearest x_courtStands x_courtNews x_tallyStands c_queueLength c_takenBits fve fqu ftu fcb fmonths ffull flean ffal ffon s_months s_full s_lean fco_ fle_ amonths afull alean ahasMoon amoonStart amoonStep areportCount p_name p_trust r_place r_kind r_month r_day r_known r_struck p1 p2 z) v0_ v1_)
      unfold dfX11_nearest_37
      repeat' (first | with_reducible refine wr_cb hK (fun _ hp => ?_) | with_reducible refine wr_ite (fun _ => ?_) (fun _ => ?_) | with_reducible refine wr_cal (fun _ _ => ?_) | unfold bfX11_nearest_139 | unfold bfX11_nearest_25 | with_reducible exact ih.1 _ _ | with_reducible exact ih.2 _ _ _ _ | exact hp | exact hK)
    · intro v0_ v1_ v2_ v3_
      show Wr (K20 t0 a0) (dfX11_nearest_63 x_courtStands x_courtNews x_tallyStands c_queueLength c_takenBits fve fqu ftu fcb fmonths ffull flean ffal ffon s_months s_full s_lean fco_ fle_ amonths afull alean ahasMoon amoonStart amoonStep areportCount p_name p_trust r_place r_kind r_month r_day r_known r_struck p1 p2 (lfX11_nearest x_courtStands x_courtNews x_tallyStands c_queueLength c_takenBits fve fqu ftu fcb fmonths ffull flean ffal ffon s_months s_full s_lean fco_ fle_ amonths afull alean ahasMoon amoonStart amoonStep areportCount p_name p_trust r_place r_kind r_month r_day r_known r_struck p1 p2 z) v0_ v1_ v2_ v3_)
      unfold dfX11_nearest_63
      repeat' (first | with_reducible refine wr_cb hK (fun _ hp => ?_) | with_reducible refine wr_ite (fun _ => ?_) (fun _ => ?_) | with_reducible refine wr_cal (fun _ _ => ?_) | unfold bfX11_nearest_139 | unfold bfX11_nearest_25 | with_reducible exact ih.1 _ _ | with_reducible exact ih.2 _ _ _ _ | exact hp | exact hK)
theorem p4_longer {vx : Nat → Int32} {fx : Nat → Nat → Int32} {gx : Nat → Nat → Int64} (h : TIx vx fx) {r : Int32} {v : Nat → Int32} {f : Nat → Nat → Int32} {g : Nat → Nat → Int64} {p1 p2 p3 : Int32} (hx : (r, v, f, g) = xs_longer vx fx gx p1 p2 p3) : TIx v f := by
  have h0 : K3 (vx 3) (fx 6) (vx 3) (fx 6) := k3_0
  have key : Wr (fun o : Int32 × Int32 × Int32 × Int32 × Int32 × Int32 × Int32 × Int32 × Int32 × Int32 × Int32 × Int32 × (Nat → Int32) × (Nat → Int32) × (Nat → Int64) × (Nat → Int32) × (Nat → Int32) × (Nat → Int32) × (Nat → Int32) × (Nat → Int32) => K3 (vx 3) (fx 6) o.2.2.2.1 o.2.2.2.2.2.2.2.2.2.2.2.2.2.2.2.2.1) (fX11_longer (vx 1) (vx 2) (vx 3) (vx 44) (vx 45) (fx 3) (fx 4) (gx 0) (fx 5) (vx 46) (vx 47) (vx 48) (fx 6) (fx 7) (vx 57) (vx 58) (vx 59) (fx 16) (fx 17) (vx 11) (vx 12) (vx 13) (vx 15) (vx 16) (vx 17) (vx 19) (vx 20) (fx 22) (fx 23) (fx 24) (fx 25) (fx 26) (fx 27) (fx 28) (fx 29) (fx 30) (fx 31) (fx 32) (fx 33) p1 p2 p3) := by
    unfold fX11_longer
    repeat' (first | with_reducible refine wr_ll h0 (fun _ hp => ?_) | with_reducible refine wr_ll hp (fun _ hp => ?_) | with_reducible refine wr_cb h0 (fun _ hp => ?_) | with_reducible refine wr_cb hp (fun _ hp => ?_) | with_reducible refine wr_eb h0 (fun _ hp => ?_) | with_reducible refine wr_eb hp (fun _ hp => ?_) | with_reducible refine wr_ite (fun _ => ?_) (fun _ => ?_) | with_reducible refine wr_cal (fun _ _ => ?_) | unfold bfX11_longer_24 | unfold bfX11_longer_86 | exact hp | exact h0)
  have e1 : v = (xs_longer vx fx gx p1 p2 p3).2.1 := congrArg (fun o => o.2.1) hx
  have e2 : f = (xs_longer vx fx gx p1 p2 p3).2.2.1 := congrArg (fun o => o.2.2.1) hx
  rw [e1, e2]
  exact t3_ct h key
theorem p4_hang {vx : Nat → Int32} {fx : Nat → Nat → Int32} {gx : Nat → Nat → Int64} (h : TIx vx fx) {r : Int32} {v : Nat → Int32} {f : Nat → Nat → Int32} {g : Nat → Nat → Int64} {p1 p2 : Int32} (hx : (r, v, f, g) = xs_hang vx fx gx p1 p2) : TIx v f := by
  have h0 : K3 (vx 3) (fx 6) (vx 3) (fx 6) := k3_0
  have key : Wr (fun o : Int32 × Int32 × Int32 × Int32 × Int32 × Int32 × Int32 × Int32 × Int32 × Int32 × Int32 × Int32 × Int32 × Int32 × Int32 × Int32 × Int32 × Int32 × Int32 × Int32 × Int32 × Int32 × Int32 × Int32 × (Nat → Int32) × (Nat → Int32) × (Nat → Int64) × (Nat → Int32) × (Nat → Int32) × (Nat → Int32) × (Nat → Int32) × (Nat → Int32) × (Nat → Int64) × (Nat → Int32) × (Nat → Int32) × (Nat → Int32) × (Nat → Int32) × (Nat → Int32) × (Nat → Int32) × (Nat → Int32) × (Nat → Int32) × (Nat → Int32) × (Nat → Int32) × (Nat → Int32) => K3 (vx 3) (fx 6) o.2.2.2.1 o.2.2.2.2.2.2.2.2.2.2.2.2.2.2.2.2.2.2.2.2.2.2.2.2.2.2.2.2.2.2.2.2.2.2.1) (fX11_hang (vx 1) (vx 2) (vx 3) (vx 21) (vx 22) (vx 23) (vx 24) (vx 25) (vx 26) (vx 27) (vx 28) (vx 29) (vx 30) (vx 49) (vx 50) (fx 8) (fx 9) (gx 1) (fx 10) (vx 51) (vx 52) (vx 53) (fx 11) (fx 12) (vx 44) (vx 45) (fx 3) (fx 4) (gx 0) (fx 5) (vx 46) (vx 47) (vx 48) (fx 6) (fx 7) (fx 34) (fx 35) (fx 36) (fx 37) (fx 38) (fx 39) (fx 40) (fx 41) (vx 11) (vx 12) (vx 13) (vx 15) (vx 16) (vx 17) (vx 18) (vx 19) (fx 22) (fx 23) (fx 24) (fx 25) (fx 26) (fx 27) (fx 28) (fx 29) p1 p2) := by
    unfold fX11_hang
    repeat' (first | with_reducible refine wr_cb h0 (fun _ hp => ?_) | with_reducible refine wr_cb hp (fun _ hp => ?_) | with_reducible refine wr_eb h0 (fun _ hp => ?_) | with_reducible refine wr_eb hp (fun _ hp => ?_) | with_reducible refine wr_ite (fun _ => ?_) (fun _ => ?_) | with_reducible refine wr_cal (fun _ _ => ?_) | unfold bfX11_hang_31 | exact hp | exact h0)
  have e1 : v = (xs_hang vx fx gx p1 p2).2.1 := congrArg (fun o => o.2.1) hx
  have e2 : f = (xs_hang vx fx gx p1 p2).2.2.1 := congrArg (fun o => o.2.2.1) hx
  rw [e1, e2]
  exact t3_ct h key
theorem p4_days {vx : Nat → Int32} {fx : Nat → Nat → Int32} {gx : Nat → Nat → Int64} (h : TIx vx fx) {r : Int32} {v : Nat → Int32} {f : Nat → Nat → Int32} {g : Nat → Nat → Int64} {p1 p2 : Int32} (hx : (r, v, f, g) = xs_days vx fx gx p1 p2) : TIx v f := by
  have h0 : K3 (vx 3) (fx 6) (vx 3) (fx 6) := k3_0
  have key : Wr (fun o : Int32 × Int32 × Int32 × Int32 × Int32 × Int32 × Int32 × Int32 × Int32 × (Nat → Int32) × (Nat → Int32) × (Nat → Int64) × (Nat → Int32) × (Nat → Int32) × (Nat → Int32) => K3 (vx 3) (fx 6) o.2.2.2.1 o.2.2.2.2.2.2.2.2.2.2.2.2.2.1) (fX11_days (vx 1) (vx 2) (vx 3) (vx 44) (vx 45) (fx 3) (fx 4) (gx 0) (fx 5) (vx 46) (vx 47) (vx 48) (fx 6) (fx 7) (vx 11) (vx 12) (vx 13) (vx 15) (vx 16) (vx 17) (vx 19) (vx 20) (fx 22) (fx 23) (fx 24) (fx 25) (fx 26) (fx 27) (fx 28) (fx 29) (fx 30) (fx 31) (fx 32) (fx 33) p1 p2) := by
    unfold fX11_days
    repeat' (first | with_reducible refine wr_cb h0 (fun _ hp => ?_) | with_reducible refine wr_cb hp (fun _ hp => ?_) | with_reducible refine wr_eb h0 (fun _ hp => ?_) | with_reducible refine wr_eb hp (fun _ hp => ?_) | with_reducible refine wr_ite (fun _ => ?_) (fun _ => ?_) | with_reducible refine wr_cal (fun _ _ => ?_) | unfold bfX11_days_16 | exact hp | exact h0)
  have e1 : v = (xs_days vx fx gx p1 p2).2.1 := congrArg (fun o => o.2.1) hx
  have e2 : f = (xs_days vx fx gx p1 p2).2.2.1 := congrArg (fun o => o.2.2.1) hx
  rw [e1, e2]
  exact t3_ct h key
theorem p4_later {vx : Nat → Int32} {fx : Nat → Nat → Int32} {gx : Nat → Nat → Int64} (h : TIx vx fx) {r : Int32} {v : Nat → Int32} {f : Nat → Nat → Int32} {g : Nat → Nat → Int64} {p1 : Int32} (hx : (r, v, f, g) = xs_later vx fx gx p1) : TIx v f := by
  have h0 : K3 (vx 3) (fx 6) (vx 3) (fx 6) := k3_0
  have key : Wr (fun o : Int32 × Int32 × Int32 × Int32 × Int32 × Int32 × Int32 × Int32 × Int32 × (Nat → Int32) × (Nat → Int32) × (Nat → Int64) × (Nat → Int32) × (Nat → Int32) × (Nat → Int32) => K3 (vx 3) (fx 6) o.2.2.2.1 o.2.2.2.2.2.2.2.2.2.2.2.2.2.1) (fX11_later (vx 1) (vx 2) (vx 3) (vx 44) (vx 45) (fx 3) (fx 4) (gx 0) (fx 5) (vx 46) (vx 47) (vx 48) (fx 6) (fx 7) (vx 11) (vx 12) (vx 13) (vx 15) (vx 16) (vx 17) (vx 19) (fx 22) (fx 23) (fx 24) (fx 25) (fx 26) (fx 27) (fx 28) (fx 29) p1) := by
    unfold fX11_later
    repeat' (first | with_reducible refine wr_cb h0 (fun _ hp => ?_) | with_reducible refine wr_cb hp (fun _ hp => ?_) | with_reducible refine wr_eb h0 (fun _ hp => ?_) | with_reducible refine wr_eb hp (fun _ hp => ?_) | with_reducible refine wr_ite (fun _ => ?_) (fun _ => ?_) | with_reducible refine wr_cal (fun _ _ => ?_) | unfold bfX11_later_34 | exact hp | exact h0)
  have e1 : v = (xs_later vx fx gx p1).2.1 := congrArg (fun o => o.2.1) hx
  have e2 : f = (xs_later vx fx gx p1).2.2.1 := congrArg (fun o => o.2.2.1) hx
  rw [e1, e2]
  exact t3_ct h key
theorem p4_nearest {vx : Nat → Int32} {fx : Nat → Nat → Int32} {gx : Nat → Nat → Int64} (h : TIx vx fx) {r : Int32} {v : Nat → Int32} {f : Nat → Nat → Int32} {g : Nat → Nat → Int64} {p1 p2 : Int32} (hx : (r, v, f, g) = xs_nearest vx fx gx p1 p2) : TIx v f := by
  have h0 : K3 (vx 3) (fx 6) (vx 3) (fx 6) := k3_0
  have key : Wr (fun o : Int32 × Int32 × Int32 × Int32 × Int32 × Int32 × Int32 × Int32 × Int32 × Int32 × Int32 × Int32 × (Nat → Int32) × (Nat → Int32) × (Nat → Int64) × (Nat → Int32) × (Nat → Int32) × (Nat → Int32) × (Nat → Int32) × (Nat → Int32) => K3 (vx 3) (fx 6) o.2.2.2.1 o.2.2.2.2.2.2.2.2.2.2.2.2.2.2.2.2.1) (fX11_nearest (vx 1) (vx 2) (vx 3) (vx 44) (vx 45) (fx 3) (fx 4) (gx 0) (fx 5) (vx 46) (vx 47) (vx 48) (fx 6) (fx 7) (vx 57) (vx 58) (vx 59) (fx 16) (fx 17) (vx 11) (vx 12) (vx 13) (vx 15) (vx 16) (vx 17) (vx 19) (fx 22) (fx 23) (fx 24) (fx 25) (fx 26) (fx 27) (fx 28) (fx 29) p1 p2) := by
    unfold fX11_nearest
    repeat' (first | with_reducible refine wr_cb h0 (fun _ hp => ?_) | with_reducible refine wr_cb hp (fun _ hp => ?_) | with_reducible refine wr_eb h0 (fun _ hp => ?_) | with_reducible refine wr_eb hp (fun _ hp => ?_) | with_reducible refine wr_ite (fun _ => ?_) (fun _ => ?_) | with_reducible refine wr_cal (fun _ _ => ?_) | unfold bfX11_nearest_139 | unfold bfX11_nearest_25 | exact (k3_ne h0 _).1 _ _ | exact hp | exact h0)
  have e1 : v = (xs_nearest vx fx gx p1 p2).2.1 := congrArg (fun o => o.2.1) hx
  have e2 : f = (xs_nearest vx fx gx p1 p2).2.2.1 := congrArg (fun o => o.2.2.1) hx
  rw [e1, e2]
  exact t3_ct h key
theorem kt_tell {t0 : Int32} {a0 : Nat → Int32} {x_outLength : Int32} {x_courtStands : Int32} {x_courtNews : Int32} {x_tallyStands : Int32} {c_queueLength : Int32} {c_takenBits : Int32} {fve : Nat → Int32} {fqu : Nat → Int32} {ftu : Nat → Int64} {fcb : Nat → Int32} {fmonths : Int32} {ffull : Int32} {flean : Int32} {ffal : Nat → Int32} {ffon : Nat → Int32} {fxo : Nat → Int32} {amonths : Int32} {afull : Int32} {alean : Int32} {ahasMoon : Int32} {amoonStart : Int32} {amoonStep : Int32} {areportCount : Int32} {p_name : Nat → Int32} {p_trust : Nat → Int32} {r_place : Nat → Int32} {r_kind : Nat → Int32} {r_month : Nat → Int32} {r_day : Nat → Int32} {r_known : Nat → Int32} {r_struck : Nat → Int32} {p1 : Int32} : ∀ z : Nat, (∀ (v3 : Int32) (w0_11 : Int32) (w0_12 : Int32) (w0_13 : Int32) (w0_14 : Int32) (w1_5 : Int32) (w1_6 : Int32) (w6_0 : Int32) (w6_1 : Int32) (w6_2 : Int32) (z2 : Nat → Int32) (z3 : Nat → Int32) (z4 : Nat → Int64) (z5 : Nat → Int32) (z7 : Nat → Int32) (z8 : Nat → Int32) (z9 : Nat → Int32), K3 t0 a0 w0_14 z7 → Wr (fun o : Int32 × Int32 × Int32 × Int32 × Int32 × Int32 × Int32 × Int32 × Int32 × Int32 × (Nat → Int32) × (Nat → Int32) × (Nat → Int64) × (Nat → Int32) × (Nat → Int32) × (Nat → Int32) × (Nat → Int32) => K3 t0 a0 o.2.2.2.2.1 o.2.2.2.2.2.2.2.2.2.2.2.2.2.2.1) ((lfX11_tell x_outLength x_courtStands x_courtNews x_tallyStands c_queueLength c_takenBits fve fqu ftu fcb fmonths ffull flean ffal ffon fxo amonths afull alean ahasMoon amoonStart amoonStep areportCount p_name p_trust r_place r_kind r_month r_day r_known r_struck p1 z) v3 w0_11 w0_12 w0_13 w0_14 w1_5 w1_6 w6_0 w6_1 w6_2 z2 z3 z4 z5 z7 z8 z9)) := by
  intro z
  induction z with
  | zero => exact fun _ _ _ _ _ _ _ _ _ _ _ _ _ _ _ _ _ hp => hp
  | succ z ih =>
    intro v3 w0_11 w0_12 w0_13 w0_14 w1_5 w1_6 w6_0 w6_1 w6_2 z2 z3 z4 z5 z7 z8 z9 hp
    show Wr _ (dfX11_tell_24 x_outLength x_courtStands x_courtNews x_tallyStands c_queueLength c_takenBits fve fqu ftu fcb fmonths ffull flean ffal ffon fxo amonths afull alean ahasMoon amoonStart amoonStep areportCount p_name p_trust r_place r_kind r_month r_day r_known r_struck p1 (lfX11_tell x_outLength x_courtStands x_courtNews x_tallyStands c_queueLength c_takenBits fve fqu ftu fcb fmonths ffull flean ffal ffon fxo amonths afull alean ahasMoon amoonStart amoonStep areportCount p_name p_trust r_place r_kind r_month r_day r_known r_struck p1 z) v3 w0_11 w0_12 w0_13 w0_14 w1_5 w1_6 w6_0 w6_1 w6_2 z2 z3 z4 z5 z7 z8 z9)
    unfold dfX11_tell_24
    repeat' (first | with_reducible refine wr_cb hp (fun _ hp => ?_) | with_reducible refine wr_ite (fun _ => ?_) (fun _ => ?_) | with_reducible refine wr_cal (fun _ _ => ?_) | unfold bfX11_tell_45 | unfold bfX11_tell_60 | unfold bfX11_tell_75 | unfold bfX11_tell_91 | with_reducible exact ih _ _ _ _ _ _ _ _ _ _ _ _ _ _ _ _ _ hp | exact hp)
theorem p4_tell {vx : Nat → Int32} {fx : Nat → Nat → Int32} {gx : Nat → Nat → Int64} (h : TIx vx fx) {r : Int32} {v : Nat → Int32} {f : Nat → Nat → Int32} {g : Nat → Nat → Int64} {p1 : Int32} (hx : (r, v, f, g) = xs_tell vx fx gx p1) : TIx v f := by
  have h0 : K3 (vx 3) (fx 6) (vx 3) (fx 6) := k3_0
  have key : Wr (fun o : Int32 × Int32 × Int32 × Int32 × Int32 × Int32 × Int32 × Int32 × Int32 × Int32 × (Nat → Int32) × (Nat → Int32) × (Nat → Int64) × (Nat → Int32) × (Nat → Int32) × (Nat → Int32) × (Nat → Int32) => K3 (vx 3) (fx 6) o.2.2.2.2.1 o.2.2.2.2.2.2.2.2.2.2.2.2.2.2.1) (fX11_tell (vx 0) (vx 1) (vx 2) (vx 3) (vx 44) (vx 45) (fx 3) (fx 4) (gx 0) (fx 5) (vx 46) (vx 47) (vx 48) (fx 6) (fx 7) (fx 21) (vx 11) (vx 12) (vx 13) (vx 15) (vx 16) (vx 17) (vx 19) (fx 22) (fx 23) (fx 24) (fx 25) (fx 26) (fx 27) (fx 28) (fx 29) p1) := by
    unfold fX11_tell
    repeat' (first | with_reducible refine wr_cb h0 (fun _ hp => ?_) | with_reducible refine wr_cb hp (fun _ hp => ?_) | with_reducible refine wr_eb h0 (fun _ hp => ?_) | with_reducible refine wr_eb hp (fun _ hp => ?_) | with_reducible refine wr_ite (fun _ => ?_) (fun _ => ?_) | with_reducible refine wr_cal (fun _ _ => ?_) | unfold bfX11_tell_45 | unfold bfX11_tell_60 | unfold bfX11_tell_75 | unfold bfX11_tell_91 | exact (kt_tell _) _ _ _ _ _ _ _ _ _ _ _ _ _ _ _ _ _ hp | exact hp | exact h0)
  have e1 : v = (xs_tell vx fx gx p1).2.1 := congrArg (fun o => o.2.1) hx
  have e2 : f = (xs_tell vx fx gx p1).2.2.1 := congrArg (fun o => o.2.2.1) hx
  rw [e1, e2]
  exact t3_ct h key
def TQ (vx : Nat → Int32) (o : Q21) : Prop := T3 (aF vx) (aL vx) (aM vx) o.2.2.2.1 o.2.2.2.2.2.2.2.2.2.2.2.2.2.2.2.2.1 o.2.2.2.2.2.2.2.2.2.1 o.2.2.2.2.2.2.2.2.2.2.1 o.2.2.2.2.2.2.2.2.2.2.2.1 o.2.2.2.2.2.2.2.2.2.2.2.2.2.2.2.2.2.2.1 o.2.2.2.2.2.2.2.2.2.2.2.2.2.2.2.2.2.2.2.1 o.2.2.2.2.2.2.2.2.2.2.2.2.2.2.2.2.2.2.2.2
theorem wr_tb {vx : Nat → Int32} {fx : Nat → Nat → Int32} {gx : Nat → Nat → Int64} {mi : Nat → Int32} {fm : Nat → Nat → Int32} (hM : MIp mi fm) (h : REL3 vx fx mi fm) (hT : TIx vx fx) (h3 : ¬ mi 3 = 0) {t : Int32} {F : Q20 → Q21} (hF : ∀ o : Q20, TQ vx ((0 : Int32), o) → Wr (TQ vx) (F o)) : Wr (TQ vx) (cal F (fX11_tallyBy (vx 1) (vx 2) (vx 3) (vx 44) (vx 45) (fx 3) (fx 4) (gx 0) (fx 5) (vx 46) (vx 47) (vx 48) (fx 6) (fx 7) (vx 54) (vx 55) (vx 56) (fx 13) (fx 14) (fx 15) (vx 11) (vx 12) (vx 13) (vx 15) (vx 16) (vx 17) (vx 19) (fx 22) (fx 23) (fx 24) (fx 25) (fx 26) (fx 27) (fx 28) (fx 29) t)) := hF _ (tb_TL hM h hT h3 rfl).2
theorem tq_lf {vx : Nat → Int32} {O : Q21} {s : Q20} (h : O.2 = s) (hp : TQ vx ((0 : Int32), s)) : Wr (TQ vx) O := by
  show TQ vx O
  unfold TQ at hp ⊢
  rw [h]
  exact hp
theorem p4_ways {vx : Nat → Int32} {fx : Nat → Nat → Int32} {gx : Nat → Nat → Int64} {mi : Nat → Int32} {fm : Nat → Nat → Int32} (hM : MIp mi fm) (h : REL3 vx fx mi fm) (hT : TIx vx fx) {r : Int32} {v : Nat → Int32} {f : Nat → Nat → Int32} {g : Nat → Nat → Int64} {p1 : Int32} (hx : (r, v, f, g) = xs_ways vx fx gx p1) : TIx v f := by
  have key : Wr (TQ vx) (fX11_ways (vx 1) (vx 2) (vx 3) (vx 44) (vx 45) (fx 3) (fx 4) (gx 0) (fx 5) (vx 46) (vx 47) (vx 48) (fx 6) (fx 7) (vx 54) (vx 55) (vx 56) (fx 13) (fx 14) (fx 15) (vx 11) (vx 12) (vx 13) (vx 15) (vx 16) (vx 17) (vx 19) (fx 22) (fx 23) (fx 24) (fx 25) (fx 26) (fx 27) (fx 28) (fx 29) p1) := by
    unfold fX11_ways
    refine wr_cal (fun o1 e1 => wr_ite (fun c1 => ?_) (fun c1 => ?_))
    · first | exact hT | (unfold bfX11_ways_21; exact hT)
    have n3 := nt_of h (t := p1) (e1 ▸ c1)
    repeat' (first | with_reducible refine wr_tb hM h hT n3 (fun o2 hp => ?_) | with_reducible refine wr_ite (fun _ => ?_) (fun _ => ?_) | with_reducible refine wr_cal (fun _ _ => ?_) | unfold bfX11_ways_21 | exact hp | exact hT)
  have e1 : v = (xs_ways vx fx gx p1).2.1 := congrArg (fun o => o.2.1) hx
  have e2 : f = (xs_ways vx fx gx p1).2.2.1 := congrArg (fun o => o.2.2.1) hx
  rw [e1, e2]
  exact key
theorem p4_span {vx : Nat → Int32} {fx : Nat → Nat → Int32} {gx : Nat → Nat → Int64} {mi : Nat → Int32} {fm : Nat → Nat → Int32} (hM : MIp mi fm) (h : REL3 vx fx mi fm) (hT : TIx vx fx) {r : Int32} {v : Nat → Int32} {f : Nat → Nat → Int32} {g : Nat → Nat → Int64} {p1 p2 p3 : Int32} (hx : (r, v, f, g) = xs_span vx fx gx p1 p2 p3) : TIx v f := by
  have key : Wr (TQ vx) (fX11_span (vx 1) (vx 2) (vx 3) (vx 44) (vx 45) (fx 3) (fx 4) (gx 0) (fx 5) (vx 46) (vx 47) (vx 48) (fx 6) (fx 7) (vx 54) (vx 55) (vx 56) (fx 13) (fx 14) (fx 15) (vx 11) (vx 12) (vx 13) (vx 15) (vx 16) (vx 17) (vx 19) (fx 22) (fx 23) (fx 24) (fx 25) (fx 26) (fx 27) (fx 28) (fx 29) p1 p2 p3) := by
    unfold fX11_span
    refine wr_cal (fun o1 e1 => wr_ite (fun c1 => ?_) (fun c1 => ?_))
    · first | exact hT | (unfold bfX11_span_31; exact hT) | (unfold bfX11_span_50; exact hT)
    have n3 := nt_of h (t := p1) (e1 ▸ c1)
    repeat' (first | with_reducible refine wr_tb hM h hT n3 (fun o2 hp => ?_) | with_reducible refine wr_ite (fun _ => ?_) (fun _ => ?_) | with_reducible refine wr_cal (fun _ _ => ?_) | unfold bfX11_span_31 | unfold bfX11_span_50 | exact hp | exact hT)
  have e1 : v = (xs_span vx fx gx p1 p2 p3).2.1 := congrArg (fun o => o.2.1) hx
  have e2 : f = (xs_span vx fx gx p1 p2 p3).2.2.1 := congrArg (fun o => o.2.2.1) hx
  rw [e1, e2]
  exact key
theorem p4_sure {vx : Nat → Int32} {fx : Nat → Nat → Int32} {gx : Nat → Nat → Int64} {mi : Nat → Int32} {fm : Nat → Nat → Int32} (hM : MIp mi fm) (h : REL3 vx fx mi fm) (hT : TIx vx fx) {r : Int32} {v : Nat → Int32} {f : Nat → Nat → Int32} {g : Nat → Nat → Int64} {p1 : Int32} (hx : (r, v, f, g) = xs_sure vx fx gx p1) : TIx v f := by
  have key : Wr (TQ vx) (fX11_sure (vx 1) (vx 2) (vx 3) (vx 44) (vx 45) (fx 3) (fx 4) (gx 0) (fx 5) (vx 46) (vx 47) (vx 48) (fx 6) (fx 7) (vx 54) (vx 55) (vx 56) (fx 13) (fx 14) (fx 15) (vx 11) (vx 12) (vx 13) (vx 15) (vx 16) (vx 17) (vx 19) (fx 22) (fx 23) (fx 24) (fx 25) (fx 26) (fx 27) (fx 28) (fx 29) p1) := by
    unfold fX11_sure
    refine wr_cal (fun o1 e1 => wr_ite (fun c1 => ?_) (fun c1 => ?_))
    · first | exact hT | (unfold bfX11_sure_58; exact hT)
    have n3 := nt_of h (t := p1) (e1 ▸ c1)
    repeat' (first | with_reducible refine wr_tb hM h hT n3 (fun o2 hp => ?_) | with_reducible refine wr_ite (fun _ => ?_) (fun _ => ?_) | with_reducible refine wr_cal (fun _ _ => ?_) | unfold bfX11_sure_58 | exact tq_lf (pt_X11_sure _ _ _ _ _ _ _ _ _ _ _ _ _ _ _ _ _ _ _ _ _ _ _) hp | exact hp | exact hT)
  have e1 : v = (xs_sure vx fx gx p1).2.1 := congrArg (fun o => o.2.1) hx
  have e2 : f = (xs_sure vx fx gx p1).2.2.1 := congrArg (fun o => o.2.2.1) hx
  rw [e1, e2]
  exact key
theorem p4_could {vx : Nat → Int32} {fx : Nat → Nat → Int32} {gx : Nat → Nat → Int64} {mi : Nat → Int32} {fm : Nat → Nat → Int32} (hM : MIp mi fm) (h : REL3 vx fx mi fm) (hT : TIx vx fx) {r : Int32} {v : Nat → Int32} {f : Nat → Nat → Int32} {g : Nat → Nat → Int64} {p1 p2 p3 : Int32} (hx : (r, v, f, g) = xs_could vx fx gx p1 p2 p3) : TIx v f := by
  have key : Wr (TQ vx) (fX11_could (vx 1) (vx 2) (vx 3) (vx 44) (vx 45) (fx 3) (fx 4) (gx 0) (fx 5) (vx 46) (vx 47) (vx 48) (fx 6) (fx 7) (vx 54) (vx 55) (vx 56) (fx 13) (fx 14) (fx 15) (vx 11) (vx 12) (vx 13) (vx 15) (vx 16) (vx 17) (vx 19) (fx 22) (fx 23) (fx 24) (fx 25) (fx 26) (fx 27) (fx 28) (fx 29) p1 p2 p3) := by
    unfold fX11_could
    refine wr_cal (fun o1 e1 => wr_ite (fun c1 => ?_) (fun c1 => ?_))
    · first | exact hT | (unfold bfX11_could_24; exact hT)
    have n3 := nt_of h (t := p1) (e1 ▸ c1)
    repeat' (first | with_reducible refine wr_tb hM h hT n3 (fun o2 hp => ?_) | with_reducible refine wr_ite (fun _ => ?_) (fun _ => ?_) | with_reducible refine wr_cal (fun _ _ => ?_) | unfold bfX11_could_24 | exact hp | exact hT)
  have e1 : v = (xs_could vx fx gx p1 p2 p3).2.1 := congrArg (fun o => o.2.1) hx
  have e2 : f = (xs_could vx fx gx p1 p2 p3).2.2.1 := congrArg (fun o => o.2.2.1) hx
  rw [e1, e2]
  exact key
theorem p4_lean {vx : Nat → Int32} {fx : Nat → Nat → Int32} {gx : Nat → Nat → Int64} {mi : Nat → Int32} {fm : Nat → Nat → Int32} (hM : MIp mi fm) (h : REL3 vx fx mi fm) (hT : TIx vx fx) {r : Int32} {v : Nat → Int32} {f : Nat → Nat → Int32} {g : Nat → Nat → Int64} {p1 p2 : Int32} (hx : (r, v, f, g) = xs_lean vx fx gx p1 p2) : TIx v f := by
  have key : Wr (TQ vx) (fX11_lean (vx 1) (vx 2) (vx 3) (vx 44) (vx 45) (fx 3) (fx 4) (gx 0) (fx 5) (vx 46) (vx 47) (vx 48) (fx 6) (fx 7) (vx 54) (vx 55) (vx 56) (fx 13) (fx 14) (fx 15) (vx 11) (vx 12) (vx 13) (vx 15) (vx 16) (vx 17) (vx 19) (fx 22) (fx 23) (fx 24) (fx 25) (fx 26) (fx 27) (fx 28) (fx 29) p1 p2) := by
    unfold fX11_lean
    refine wr_cal (fun o1 e1 => wr_ite (fun c1 => ?_) (fun c1 => ?_))
    · first | exact hT | (unfold bfX11_lean_26; exact hT)
    have n3 := nt_of h (t := p1) (e1 ▸ c1)
    repeat' (first | with_reducible refine wr_tb hM h hT n3 (fun o2 hp => ?_) | with_reducible refine wr_ite (fun _ => ?_) (fun _ => ?_) | with_reducible refine wr_cal (fun _ _ => ?_) | unfold bfX11_lean_26 | exact hp | exact hT)
  have e1 : v = (xs_lean vx fx gx p1 p2).2.1 := congrArg (fun o => o.2.1) hx
  have e2 : f = (xs_lean vx fx gx p1 p2).2.2.1 := congrArg (fun o => o.2.2.1) hx
  rw [e1, e2]
  exact key
theorem p4_ranked {vx : Nat → Int32} {fx : Nat → Nat → Int32} {gx : Nat → Nat → Int64} {mi : Nat → Int32} {fm : Nat → Nat → Int32} (hM : MIp mi fm) (h : REL3 vx fx mi fm) (hT : TIx vx fx) {r : Int32} {v : Nat → Int32} {f : Nat → Nat → Int32} {g : Nat → Nat → Int64} {p1 p2 p3 : Int32} (hx : (r, v, f, g) = xs_ranked vx fx gx p1 p2 p3) : TIx v f := by
  have key : Wr (TQ vx) (fX11_ranked (vx 1) (vx 2) (vx 3) (vx 44) (vx 45) (fx 3) (fx 4) (gx 0) (fx 5) (vx 46) (vx 47) (vx 48) (fx 6) (fx 7) (vx 54) (vx 55) (vx 56) (fx 13) (fx 14) (fx 15) (vx 11) (vx 12) (vx 13) (vx 15) (vx 16) (vx 17) (vx 19) (fx 22) (fx 23) (fx 24) (fx 25) (fx 26) (fx 27) (fx 28) (fx 29) p1 p2 p3) := by
    unfold fX11_ranked
    refine wr_cal (fun o1 e1 => wr_ite (fun c1 => ?_) (fun c1 => ?_))
    · first | exact hT | (unfold bfX11_ranked_28; exact hT) | (unfold bfX11_ranked_58; exact hT)
    have n3 := nt_of h (t := p1) (e1 ▸ c1)
    repeat' (first | with_reducible refine wr_tb hM h hT n3 (fun o2 hp => ?_) | with_reducible refine wr_ite (fun _ => ?_) (fun _ => ?_) | with_reducible refine wr_cal (fun _ _ => ?_) | unfold bfX11_ranked_28 | unfold bfX11_ranked_58 | exact hp | exact hT)
  have e1 : v = (xs_ranked vx fx gx p1 p2 p3).2.1 := congrArg (fun o => o.2.1) hx
  have e2 : f = (xs_ranked vx fx gx p1 p2 p3).2.2.1 := congrArg (fun o => o.2.2.1) hx
  rw [e1, e2]
  exact key
theorem p4_rank {vx : Nat → Int32} {fx : Nat → Nat → Int32} {gx : Nat → Nat → Int64} {mi : Nat → Int32} {fm : Nat → Nat → Int32} (hM : MIp mi fm) (h : REL3 vx fx mi fm) (hT : TIx vx fx) {r : Int32} {v : Nat → Int32} {f : Nat → Nat → Int32} {g : Nat → Nat → Int64} {p1 p2 : Int32} (hx : (r, v, f, g) = xs_rank vx fx gx p1 p2) : TIx v f := by
  have key : Wr (TQ vx) (fX11_rank (vx 1) (vx 2) (vx 3) (vx 44) (vx 45) (fx 3) (fx 4) (gx 0) (fx 5) (vx 46) (vx 47) (vx 48) (fx 6) (fx 7) (vx 54) (vx 55) (vx 56) (fx 13) (fx 14) (fx 15) (vx 11) (vx 12) (vx 13) (vx 15) (vx 16) (vx 17) (vx 19) (fx 22) (fx 23) (fx 24) (fx 25) (fx 26) (fx 27) (fx 28) (fx 29) p1 p2) := by
    unfold fX11_rank
    refine wr_cal (fun o1 e1 => wr_ite (fun c1 => ?_) (fun c1 => ?_))
    · first | exact hT | (unfold bfX11_rank_25; exact hT)
    have n3 := nt_of h (t := p1) (e1 ▸ c1)
    repeat' (first | with_reducible refine wr_tb hM h hT n3 (fun o2 hp => ?_) | with_reducible refine wr_ite (fun _ => ?_) (fun _ => ?_) | with_reducible refine wr_cal (fun _ _ => ?_) | unfold bfX11_rank_25 | exact hp | exact hT)
  have e1 : v = (xs_rank vx fx gx p1 p2).2.1 := congrArg (fun o => o.2.1) hx
  have e2 : f = (xs_rank vx fx gx p1 p2).2.2.1 := congrArg (fun o => o.2.2.1) hx
  rw [e1, e2]
  exact key
theorem p4_drawn {vx : Nat → Int32} {fx : Nat → Nat → Int32} {gx : Nat → Nat → Int64} {mi : Nat → Int32} {fm : Nat → Nat → Int32} (hM : MIp mi fm) (h : REL3 vx fx mi fm) (hT : TIx vx fx) {r : Int32} {v : Nat → Int32} {f : Nat → Nat → Int32} {g : Nat → Nat → Int64} {p1 p2 : Int32} (hx : (r, v, f, g) = xs_drawn vx fx gx p1 p2) : TIx v f := by
  have key : Wr (TQ vx) (fX11_drawn (vx 1) (vx 2) (vx 3) (vx 44) (vx 45) (fx 3) (fx 4) (gx 0) (fx 5) (vx 46) (vx 47) (vx 48) (fx 6) (fx 7) (vx 54) (vx 55) (vx 56) (fx 13) (fx 14) (fx 15) (vx 11) (vx 12) (vx 13) (vx 15) (vx 16) (vx 17) (vx 19) (fx 22) (fx 23) (fx 24) (fx 25) (fx 26) (fx 27) (fx 28) (fx 29) p1 p2) := by
    unfold fX11_drawn
    refine wr_cal (fun o1 e1 => wr_ite (fun c1 => ?_) (fun c1 => ?_))
    · first | exact hT | (unfold bfX11_drawn_47; exact hT)
    have n3 := nt_of h (t := p1) (e1 ▸ c1)
    repeat' (first | with_reducible refine wr_tb hM h hT n3 (fun o2 hp => ?_) | with_reducible refine wr_ite (fun _ => ?_) (fun _ => ?_) | with_reducible refine wr_cal (fun _ _ => ?_) | unfold bfX11_drawn_47 | exact hp | exact hT)
  have e1 : v = (xs_drawn vx fx gx p1 p2).2.1 := congrArg (fun o => o.2.1) hx
  have e2 : f = (xs_drawn vx fx gx p1 p2).2.2.1 := congrArg (fun o => o.2.2.1) hx
  rw [e1, e2]
  exact key
theorem p4_dates {vx : Nat → Int32} {fx : Nat → Nat → Int32} {gx : Nat → Nat → Int64} {mi : Nat → Int32} {fm : Nat → Nat → Int32} (hM : MIp mi fm) (h : REL3 vx fx mi fm) (hT : TIx vx fx) {r : Int32} {v : Nat → Int32} {f : Nat → Nat → Int32} {g : Nat → Nat → Int64} {p1 p2 : Int32} (hx : (r, v, f, g) = xs_dates vx fx gx p1 p2) : TIx v f := by
  have key : Wr (TQ vx) (fX11_dates (vx 1) (vx 2) (vx 3) (vx 44) (vx 45) (fx 3) (fx 4) (gx 0) (fx 5) (vx 46) (vx 47) (vx 48) (fx 6) (fx 7) (vx 54) (vx 55) (vx 56) (fx 13) (fx 14) (fx 15) (vx 11) (vx 12) (vx 13) (vx 15) (vx 16) (vx 17) (vx 19) (fx 22) (fx 23) (fx 24) (fx 25) (fx 26) (fx 27) (fx 28) (fx 29) p1 p2) := by
    unfold fX11_dates
    refine wr_cal (fun o1 e1 => wr_ite (fun c1 => ?_) (fun c1 => ?_))
    · first | exact hT | (unfold bfX11_dates_19; exact hT) | (unfold bfX11_dates_71; exact hT)
    have n3 := nt_of h (t := p1) (e1 ▸ c1)
    repeat' (first | with_reducible refine wr_tb hM h hT n3 (fun o2 hp => ?_) | with_reducible refine wr_ite (fun _ => ?_) (fun _ => ?_) | with_reducible refine wr_cal (fun _ _ => ?_) | unfold bfX11_dates_19 | unfold bfX11_dates_71 | exact tq_lf ((pt_X11_dates _).1 _ _ _ _ _ _ _ _ _ _ _ _ _ _ _ _ _ _ _ _ _ _) hp | exact tq_lf ((pt_X11_dates _).2 _ _ _ _ _ _ _ _ _ _ _ _ _ _ _ _ _ _ _ _ _ _ _) hp | exact hp | exact hT)
  have e1 : v = (xs_dates vx fx gx p1 p2).2.1 := congrArg (fun o => o.2.1) hx
  have e2 : f = (xs_dates vx fx gx p1 p2).2.2.1 := congrArg (fun o => o.2.2.1) hx
  rw [e1, e2]
  exact key
theorem p4_likely {vx : Nat → Int32} {fx : Nat → Nat → Int32} {gx : Nat → Nat → Int64} {mi : Nat → Int32} {fm : Nat → Nat → Int32} (hM : MIp mi fm) (h : REL3 vx fx mi fm) (hT : TIx vx fx) {r : Int32} {v : Nat → Int32} {f : Nat → Nat → Int32} {g : Nat → Nat → Int64} {p1 p2 : Int32} (hx : (r, v, f, g) = xs_likely vx fx gx p1 p2) : TIx v f := by
  have key : Wr (TQ vx) (fX11_likely (vx 1) (vx 2) (vx 3) (vx 44) (vx 45) (fx 3) (fx 4) (gx 0) (fx 5) (vx 46) (vx 47) (vx 48) (fx 6) (fx 7) (vx 54) (vx 55) (vx 56) (fx 13) (fx 14) (fx 15) (vx 11) (vx 12) (vx 13) (vx 15) (vx 16) (vx 17) (vx 19) (fx 22) (fx 23) (fx 24) (fx 25) (fx 26) (fx 27) (fx 28) (fx 29) p1 p2) := by
    unfold fX11_likely
    refine wr_cal (fun o1 e1 => wr_ite (fun c1 => ?_) (fun c1 => ?_))
    · first | exact hT | (unfold bfX11_likely_88; exact hT)
    have n3 := nt_of h (t := p1) (e1 ▸ c1)
    repeat' (first | with_reducible refine wr_tb hM h hT n3 (fun o2 hp => ?_) | with_reducible refine wr_ite (fun _ => ?_) (fun _ => ?_) | with_reducible refine wr_cal (fun _ _ => ?_) | unfold bfX11_likely_88 | exact tq_lf ((pt_X11_likely _).1 _ _ _ _ _ _ _ _ _ _ _ _ _ _ _ _ _ _ _ _ _ _ _) hp | exact tq_lf ((pt_X11_likely _).2 _ _ _ _ _ _ _ _ _ _ _ _ _ _ _ _ _ _ _ _ _ _ _ _) hp | exact hp | exact hT)
  have e1 : v = (xs_likely vx fx gx p1 p2).2.1 := congrArg (fun o => o.2.1) hx
  have e2 : f = (xs_likely vx fx gx p1 p2).2.2.1 := congrArg (fun o => o.2.2.1) hx
  rw [e1, e2]
  exact key
theorem p4_dueSpan {vx : Nat → Int32} {fx : Nat → Nat → Int32} {gx : Nat → Nat → Int64} {mi : Nat → Int32} {fm : Nat → Nat → Int32} (hM : MIp mi fm) (h : REL3 vx fx mi fm) (hT : TIx vx fx) {r : Int32} {v : Nat → Int32} {f : Nat → Nat → Int32} {g : Nat → Nat → Int64} {p1 p2 p3 : Int32} (hx : (r, v, f, g) = xs_dueSpan vx fx gx p1 p2 p3) : TIx v f := by
  have key : Wr (TQ vx) (fX11_dueSpan (vx 1) (vx 2) (vx 3) (vx 44) (vx 45) (fx 3) (fx 4) (gx 0) (fx 5) (vx 46) (vx 47) (vx 48) (fx 6) (fx 7) (vx 54) (vx 55) (vx 56) (fx 13) (fx 14) (fx 15) (vx 11) (vx 12) (vx 13) (vx 15) (vx 16) (vx 17) (vx 19) (vx 20) (fx 22) (fx 23) (fx 24) (fx 25) (fx 26) (fx 27) (fx 28) (fx 29) (fx 30) (fx 31) (fx 32) (fx 33) p1 p2 p3) := by
    unfold fX11_dueSpan
    refine wr_cal (fun o1 e1 => wr_ite (fun c1 => ?_) (fun c1 => ?_))
    · first | exact hT | (unfold bfX11_dueSpan_23; exact hT) | (unfold bfX11_dueSpan_57; exact hT)
    have n3 := nt_of h (t := p1) (e1 ▸ c1)
    repeat' (first | with_reducible refine wr_tb hM h hT n3 (fun o2 hp => ?_) | with_reducible refine wr_ite (fun _ => ?_) (fun _ => ?_) | with_reducible refine wr_cal (fun _ _ => ?_) | unfold bfX11_dueSpan_23 | unfold bfX11_dueSpan_57 | exact hp | exact hT)
  have e1 : v = (xs_dueSpan vx fx gx p1 p2 p3).2.1 := congrArg (fun o => o.2.1) hx
  have e2 : f = (xs_dueSpan vx fx gx p1 p2 p3).2.2.1 := congrArg (fun o => o.2.2.1) hx
  rw [e1, e2]
  exact key
theorem p4_dueOn {vx : Nat → Int32} {fx : Nat → Nat → Int32} {gx : Nat → Nat → Int64} {mi : Nat → Int32} {fm : Nat → Nat → Int32} (hM : MIp mi fm) (h : REL3 vx fx mi fm) (hT : TIx vx fx) {r : Int32} {v : Nat → Int32} {f : Nat → Nat → Int32} {g : Nat → Nat → Int64} {p1 p2 p3 : Int32} (hx : (r, v, f, g) = xs_dueOn vx fx gx p1 p2 p3) : TIx v f := by
  have key : Wr (TQ vx) (fX11_dueOn (vx 1) (vx 2) (vx 3) (vx 44) (vx 45) (fx 3) (fx 4) (gx 0) (fx 5) (vx 46) (vx 47) (vx 48) (fx 6) (fx 7) (vx 54) (vx 55) (vx 56) (fx 13) (fx 14) (fx 15) (vx 11) (vx 12) (vx 13) (vx 15) (vx 16) (vx 17) (vx 19) (vx 20) (fx 22) (fx 23) (fx 24) (fx 25) (fx 26) (fx 27) (fx 28) (fx 29) (fx 30) (fx 31) (fx 32) (fx 33) p1 p2 p3) := by
    unfold fX11_dueOn
    refine wr_cal (fun o1 e1 => wr_ite (fun c1 => ?_) (fun c1 => ?_))
    · first | exact hT | (unfold bfX11_dueOn_16; exact hT)
    have n3 := nt_of h (t := p1) (e1 ▸ c1)
    repeat' (first | with_reducible refine wr_tb hM h hT n3 (fun o2 hp => ?_) | with_reducible refine wr_ite (fun _ => ?_) (fun _ => ?_) | with_reducible refine wr_cal (fun _ _ => ?_) | unfold bfX11_dueOn_16 | exact hp | exact hT)
  have e1 : v = (xs_dueOn vx fx gx p1 p2 p3).2.1 := congrArg (fun o => o.2.1) hx
  have e2 : f = (xs_dueOn vx fx gx p1 p2 p3).2.2.1 := congrArg (fun o => o.2.2.1) hx
  rw [e1, e2]
  exact key
theorem p4_telling {vx : Nat → Int32} {fx : Nat → Nat → Int32} {gx : Nat → Nat → Int64} {mi : Nat → Int32} {fm : Nat → Nat → Int32} (hM : MIp mi fm) (h : REL3 vx fx mi fm) (hT : TIx vx fx) {r : Int32} {v : Nat → Int32} {f : Nat → Nat → Int32} {g : Nat → Nat → Int64} {p1 : Int32} (hx : (r, v, f, g) = xs_telling vx fx gx p1) : TIx v f := by
  have key : Wr (TQ vx) (fX11_telling (vx 1) (vx 2) (vx 3) (vx 44) (vx 45) (fx 3) (fx 4) (gx 0) (fx 5) (vx 46) (vx 47) (vx 48) (fx 6) (fx 7) (vx 54) (vx 55) (vx 56) (fx 13) (fx 14) (fx 15) (vx 11) (vx 12) (vx 13) (vx 15) (vx 16) (vx 17) (vx 19) (fx 22) (fx 23) (fx 24) (fx 25) (fx 26) (fx 27) (fx 28) (fx 29) p1) := by
    unfold fX11_telling
    refine wr_cal (fun o1 e1 => wr_ite (fun c1 => ?_) (fun c1 => ?_))
    · first | exact hT | (unfold bfX11_telling_51; exact hT)
    have n3 := nt_of h (t := p1) (e1 ▸ c1)
    repeat' (first | with_reducible refine wr_tb hM h hT n3 (fun o2 hp => ?_) | with_reducible refine wr_ite (fun _ => ?_) (fun _ => ?_) | with_reducible refine wr_cal (fun _ _ => ?_) | unfold bfX11_telling_51 | exact tq_lf (pt_X11_telling _ _ _ _ _ _ _ _ _ _ _ _ _ _ _ _ _ _ _ _ _ _ _) hp | exact hp | exact hT)
  have e1 : v = (xs_telling vx fx gx p1).2.1 := congrArg (fun o => o.2.1) hx
  have e2 : f = (xs_telling vx fx gx p1).2.2.1 := congrArg (fun o => o.2.2.1) hx
  rw [e1, e2]
  exact key
theorem p4_weekday {vx : Nat → Int32} {fx : Nat → Nat → Int32} {gx : Nat → Nat → Int64} {mi : Nat → Int32} {fm : Nat → Nat → Int32} (hM : MIp mi fm) (h : REL3 vx fx mi fm) (hT : TIx vx fx) {r : Int32} {v : Nat → Int32} {f : Nat → Nat → Int32} {g : Nat → Nat → Int64} {p1 p2 p3 p4 : Int32} (hx : (r, v, f, g) = xs_weekday vx fx gx p1 p2 p3 p4) : TIx v f := by
  have key : Wr (TQ vx) (fX11_weekday (vx 1) (vx 2) (vx 3) (vx 44) (vx 45) (fx 3) (fx 4) (gx 0) (fx 5) (vx 46) (vx 47) (vx 48) (fx 6) (fx 7) (vx 54) (vx 55) (vx 56) (fx 13) (fx 14) (fx 15) (vx 11) (vx 12) (vx 13) (vx 15) (vx 16) (vx 17) (vx 19) (fx 22) (fx 23) (fx 24) (fx 25) (fx 26) (fx 27) (fx 28) (fx 29) p1 p2 p3 p4) := by
    unfold fX11_weekday
    refine wr_cal (fun o1 e1 => wr_ite (fun c1 => ?_) (fun c1 => ?_))
    · first | exact hT | (unfold bfX11_weekday_29; exact hT)
    have n3 := nt_of h (t := p1) (e1 ▸ c1)
    repeat' (first | with_reducible refine wr_tb hM h hT n3 (fun o2 hp => ?_) | with_reducible refine wr_ite (fun _ => ?_) (fun _ => ?_) | with_reducible refine wr_cal (fun _ _ => ?_) | unfold bfX11_weekday_29 | exact hp | exact hT)
  have e1 : v = (xs_weekday vx fx gx p1 p2 p3 p4).2.1 := congrArg (fun o => o.2.1) hx
  have e2 : f = (xs_weekday vx fx gx p1 p2 p3 p4).2.2.1 := congrArg (fun o => o.2.2.1) hx
  rw [e1, e2]
  exact key
theorem ft_reports (x_courtStands : Int32) (x_tallyStands : Int32) (x_historyStands : Int32) (amonths : Int32) (aplaceCount : Int32) (areportCount : Int32) (r_place : Nat → Int32) (r_kind : Nat → Int32) (r_month : Nat → Int32) (r_day : Nat → Int32) (r_known : Nat → Int32) (r_struck : Nat → Int32) (p1 : Int32) (p2 : Int32) (p3 : Int32) (p4 : Int32) (p5 : Int32) : Wr (fun o : Int32 × Int32 × Int32 × Int32 × Int32 × (Nat → Int32) × (Nat → Int32) × (Nat → Int32) × (Nat → Int32) × (Nat → Int32) × (Nat → Int32) => o.2.2.1 = 0 ∨ o.2.2.1 = x_tallyStands) (fX11_reports x_courtStands x_tallyStands x_historyStands amonths aplaceCount areportCount r_place r_kind r_month r_day r_known r_struck p1 p2 p3 p4 p5) := by
  unfold fX11_reports
  repeat' (first | with_reducible refine wr_ite (fun _ => ?_) (fun _ => ?_) | with_reducible refine wr_cal (fun _ _ => ?_) | unfold bfX11_reports_39 | unfold bfX11_reports_40 | unfold bfX11_reports_67 | exact Or.inr rfl | exact Or.inl (by subst_vars; rfl))
theorem p4_reports {vx : Nat → Int32} {fx : Nat → Nat → Int32} {gx : Nat → Nat → Int64} (h : TIx vx fx) {r : Int32} {v : Nat → Int32} {f : Nat → Nat → Int32} {g : Nat → Nat → Int64} {p1 p2 p3 p4 p5 : Int32} (hx : (r, v, f, g) = xs_reports vx fx gx p1 p2 p3 p4 p5) : TIx v f := by
  have key : Wr (fun o : Int32 × Int32 × Int32 × Int32 × Int32 × (Nat → Int32) × (Nat → Int32) × (Nat → Int32) × (Nat → Int32) × (Nat → Int32) × (Nat → Int32) => o.2.2.1 = 0 ∨ o.2.2.1 = vx 3) (fX11_reports (vx 1) (vx 3) (vx 4) (vx 11) (vx 18) (vx 19) (fx 24) (fx 25) (fx 26) (fx 27) (fx 28) (fx 29) p1 p2 p3 p4 p5) := ft_reports _ _ _ _ _ _ _ _ _ _ _ _ _ _ _ _ _
  have e1 : v = (xs_reports vx fx gx p1 p2 p3 p4 p5).2.1 := congrArg (fun o => o.2.1) hx
  have e2 : f = (xs_reports vx fx gx p1 p2 p3 p4 p5).2.2.1 := congrArg (fun o => o.2.2.1) hx
  rw [e1, e2]
  rcases key with q | q
  · exact Or.inl q
  · exact t3_ct h (Or.inr ⟨q, rfl⟩)
theorem ft_strikes (x_courtStands : Int32) (x_tallyStands : Int32) (x_historyStands : Int32) (aplaceCount : Int32) (areportCount : Int32) (r_place : Nat → Int32) (r_struck : Nat → Int32) (p1 : Int32) : Wr (fun o : Int32 × Int32 × Int32 × Int32 × (Nat → Int32) => o.2.2.1 = 0 ∨ o.2.2.1 = x_tallyStands) (fX11_strikes x_courtStands x_tallyStands x_historyStands aplaceCount areportCount r_place r_struck p1) := by
  unfold fX11_strikes
  repeat' (first | with_reducible refine wr_ite (fun _ => ?_) (fun _ => ?_) | with_reducible refine wr_cal (fun _ _ => ?_) | exact Or.inr rfl | exact Or.inl (by subst_vars; rfl))
theorem p4_strikes {vx : Nat → Int32} {fx : Nat → Nat → Int32} {gx : Nat → Nat → Int64} (h : TIx vx fx) {r : Int32} {v : Nat → Int32} {f : Nat → Nat → Int32} {g : Nat → Nat → Int64} {p1 : Int32} (hx : (r, v, f, g) = xs_strikes vx fx gx p1) : TIx v f := by
  have key : Wr (fun o : Int32 × Int32 × Int32 × Int32 × (Nat → Int32) => o.2.2.1 = 0 ∨ o.2.2.1 = vx 3) (fX11_strikes (vx 1) (vx 3) (vx 4) (vx 18) (vx 19) (fx 24) (fx 29) p1) := ft_strikes _ _ _ _ _ _ _ _
  have e1 : v = (xs_strikes vx fx gx p1).2.1 := congrArg (fun o => o.2.1) hx
  have e2 : f = (xs_strikes vx fx gx p1).2.2.1 := congrArg (fun o => o.2.2.1) hx
  rw [e1, e2]
  rcases key with q | q
  · exact Or.inl q
  · exact t3_ct h (Or.inr ⟨q, rfl⟩)
theorem ft_trusts (x_courtStands : Int32) (x_tallyStands : Int32) (x_historyStands : Int32) (aplaceCount : Int32) (p_trust : Nat → Int32) (p1 : Int32) (p2 : Int32) : Wr (fun o : Int32 × Int32 × Int32 × Int32 × (Nat → Int32) => o.2.2.1 = 0 ∨ o.2.2.1 = x_tallyStands) (fX11_trusts x_courtStands x_tallyStands x_historyStands aplaceCount p_trust p1 p2) := by
  unfold fX11_trusts
  repeat' (first | with_reducible refine wr_ite (fun _ => ?_) (fun _ => ?_) | with_reducible refine wr_cal (fun _ _ => ?_) | unfold bfX11_trusts_18 | exact Or.inr rfl | exact Or.inl (by subst_vars; rfl))
theorem p4_trusts {vx : Nat → Int32} {fx : Nat → Nat → Int32} {gx : Nat → Nat → Int64} (h : TIx vx fx) {r : Int32} {v : Nat → Int32} {f : Nat → Nat → Int32} {g : Nat → Nat → Int64} {p1 p2 : Int32} (hx : (r, v, f, g) = xs_trusts vx fx gx p1 p2) : TIx v f := by
  have key : Wr (fun o : Int32 × Int32 × Int32 × Int32 × (Nat → Int32) => o.2.2.1 = 0 ∨ o.2.2.1 = vx 3) (fX11_trusts (vx 1) (vx 3) (vx 4) (vx 18) (fx 23) p1 p2) := ft_trusts _ _ _ _ _ _ _
  have e1 : v = (xs_trusts vx fx gx p1 p2).2.1 := congrArg (fun o => o.2.1) hx
  have e2 : f = (xs_trusts vx fx gx p1 p2).2.2.1 := congrArg (fun o => o.2.2.1) hx
  rw [e1, e2]
  rcases key with q | q
  · exact Or.inl q
  · exact t3_ct h (Or.inr ⟨q, rfl⟩)
theorem ft_moon (x_courtStands : Int32) (x_tallyStands : Int32) (x_historyStands : Int32) (amonths : Int32) (ahasMoon : Int32) (amoonStart : Int32) (amoonStep : Int32) (p1 : Int32) (p2 : Int32) : Wr (fun o : Int32 × Int32 × Int32 × Int32 × Int32 × Int32 × Int32 => o.2.2.1 = 0 ∨ o.2.2.1 = x_tallyStands) (fX11_moon x_courtStands x_tallyStands x_historyStands amonths ahasMoon amoonStart amoonStep p1 p2) := by
  unfold fX11_moon
  repeat' (first | with_reducible refine wr_ite (fun _ => ?_) (fun _ => ?_) | with_reducible refine wr_cal (fun _ _ => ?_) | unfold bfX11_moon_32 | exact Or.inr rfl | exact Or.inl (by subst_vars; rfl))
theorem p4_moon {vx : Nat → Int32} {fx : Nat → Nat → Int32} {gx : Nat → Nat → Int64} (h : TIx vx fx) {r : Int32} {v : Nat → Int32} {f : Nat → Nat → Int32} {g : Nat → Nat → Int64} {p1 p2 : Int32} (hx : (r, v, f, g) = xs_moon vx fx gx p1 p2) : TIx v f := by
  have key : Wr (fun o : Int32 × Int32 × Int32 × Int32 × Int32 × Int32 × Int32 => o.2.2.1 = 0 ∨ o.2.2.1 = vx 3) (fX11_moon (vx 1) (vx 3) (vx 4) (vx 11) (vx 15) (vx 16) (vx 17) p1 p2) := ft_moon _ _ _ _ _ _ _ _ _
  have e1 : v = (xs_moon vx fx gx p1 p2).2.1 := congrArg (fun o => o.2.1) hx
  have e2 : f = (xs_moon vx fx gx p1 p2).2.2.1 := congrArg (fun o => o.2.2.1) hx
  rw [e1, e2]
  rcases key with q | q
  · exact Or.inl q
  · exact t3_ct h (Or.inr ⟨q, rfl⟩)
theorem p4_runs {vx : Nat → Int32} {fx : Nat → Nat → Int32} {gx : Nat → Nat → Int64} (h : TIx vx fx) {r : Int32} {v : Nat → Int32} {f : Nat → Nat → Int32} {g : Nat → Nat → Int64} {p1 p2 : Int32} (hx : (r, v, f, g) = xs_runs vx fx gx p1 p2) : TIx v f := by
  have h0 : K3 (vx 3) (fx 6) (vx 3) (fx 6) := k3_0
  have key : Wr (fun o : Int32 × Int32 × Int32 × Int32 × Int32 × Int32 × Int32 × Int32 × Int32 × Int32 × Int32 × Int32 × Int32 × Int32 × Int32 × Int32 × Int32 × Int32 × Int32 × Int32 × Int32 × Int32 × Int32 × Int32 × Int32 × Int32 × Int32 × (Nat → Int32) × (Nat → Int32) × (Nat → Int64) × (Nat → Int32) × (Nat → Int32) × (Nat → Int32) × (Nat → Int32) × (Nat → Int32) × (Nat → Int64) × (Nat → Int32) × (Nat → Int32) × (Nat → Int32) × (Nat → Int32) × (Nat → Int32) × (Nat → Int32) × (Nat → Int32) × (Nat → Int32) × (Nat → Int32) × (Nat → Int32) × (Nat → Int32) => o.2.2.2.1 = 0 ∨ ((o.2.2.2.1 = vx 3 ∧ o.2.2.2.2.2.2.2.2.2.2.2.2.2.2.2.2.2.2.2.2.2.2.2.2.2.2.2.2.2.2.2.2.2.2.2.2.2.1 = fx 6) ∧ o.2.2.2.2.2.1 = vx 12 ∧ o.2.2.2.2.2.2.1 = vx 13)) (fX11_runs (vx 1) (vx 2) (vx 3) (vx 4) (vx 11) (vx 12) (vx 13) (vx 15) (vx 16) (vx 17) (vx 18) (vx 19) (vx 21) (vx 22) (vx 23) (vx 24) (vx 25) (vx 26) (vx 27) (vx 28) (vx 29) (vx 30) (vx 49) (vx 50) (fx 8) (fx 9) (gx 1) (fx 10) (vx 51) (vx 52) (vx 53) (fx 11) (fx 12) (vx 44) (vx 45) (fx 3) (fx 4) (gx 0) (fx 5) (vx 46) (vx 47) (vx 48) (fx 6) (fx 7) (fx 34) (fx 35) (fx 36) (fx 37) (fx 38) (fx 39) (fx 40) (fx 41) (fx 22) (fx 23) (fx 24) (fx 25) (fx 26) (fx 27) (fx 28) (fx 29) p1 p2) := by
    unfold fX11_runs
    repeat' (first | with_reducible refine wr_cb h0 (fun _ hp => ?_) | with_reducible refine wr_ite (fun _ => ?_) (fun _ => ?_) | with_reducible refine wr_cal (fun _ _ => ?_) | unfold bfX11_runs_27 | exact hp.elim Or.inl (fun q => Or.inr ⟨q, rfl, rfl⟩) | exact Or.inr ⟨⟨rfl, rfl⟩, rfl, rfl⟩ | exact Or.inl (by subst_vars; rfl))
  have e1 : v = (xs_runs vx fx gx p1 p2).2.1 := congrArg (fun o => o.2.1) hx
  have e2 : f = (xs_runs vx fx gx p1 p2).2.2.1 := congrArg (fun o => o.2.2.1) hx
  rw [e1, e2]
  obtain ⟨O, hO⟩ : ∃ O, O = fX11_runs (vx 1) (vx 2) (vx 3) (vx 4) (vx 11) (vx 12) (vx 13) (vx 15) (vx 16) (vx 17) (vx 18) (vx 19) (vx 21) (vx 22) (vx 23) (vx 24) (vx 25) (vx 26) (vx 27) (vx 28) (vx 29) (vx 30) (vx 49) (vx 50) (fx 8) (fx 9) (gx 1) (fx 10) (vx 51) (vx 52) (vx 53) (fx 11) (fx 12) (vx 44) (vx 45) (fx 3) (fx 4) (gx 0) (fx 5) (vx 46) (vx 47) (vx 48) (fx 6) (fx 7) (fx 34) (fx 35) (fx 36) (fx 37) (fx 38) (fx 39) (fx 40) (fx 41) (fx 22) (fx 23) (fx 24) (fx 25) (fx 26) (fx 27) (fx 28) (fx 29) p1 p2 := ⟨_, rfl⟩
  unfold xs_runs
  rw [← hO] at key ⊢
  rcases key with q | ⟨q, q2, q3⟩
  · exact Or.inl q
  · have h2 := t3_ct h (Or.inr q)
    unfold TIx aF aL
    show T3 (O.2.2.2.2.2.1).toNatClampNeg (O.2.2.2.2.2.2.1).toNatClampNeg _ _ _ _ _ _ _ _ _
    rw [q2, q3]
    exact h2
theorem ft_almanac (x_courtStands : Int32) (x_tallyStands : Int32) (x_historyStands : Int32) (q_token : Int32) (q_start : Int32) (b_length : Int32) (fbt : Nat → Int32) (ep_name : Nat → Int32) (ep_trust : Nat → Int32) (er_place : Nat → Int32) (er_kind : Nat → Int32) (er_month : Nat → Int32) (er_day : Nat → Int32) (er_known : Nat → Int32) (er_struck : Nat → Int32) (ed_month : Nat → Int32) (ed_day : Nat → Int32) (ed_length : Nat → Int32) (ed_inDays : Nat → Int32) : Wr (fun o : Int32 × Int32 × Int32 × Int32 × Int32 × Int32 × Int32 × Int32 × Int32 × Int32 × Int32 × Int32 × Int32 × Int32 × Int32 × Int32 × Int32 × Int32 × Int32 × Int32 × (Nat → Int32) × (Nat → Int32) × (Nat → Int32) × (Nat → Int32) × (Nat → Int32) × (Nat → Int32) × (Nat → Int32) × (Nat → Int32) × (Nat → Int32) × (Nat → Int32) × (Nat → Int32) × (Nat → Int32) => (o.2.2.2.2.1 = 0 ∧ o.2.2.1 = 0) ∨ (¬ o.2.2.2.2.1 = 0 ∧ o.2.2.1 = x_tallyStands)) (fX11_almanac x_courtStands x_tallyStands x_historyStands q_token q_start b_length fbt ep_name ep_trust er_place er_kind er_month er_day er_known er_struck ed_month ed_day ed_length ed_inDays) := by
  unfold fX11_almanac
  refine wr_cal (fun o1 _ => wr_ite (fun c => wr_cal (fun o2 e2 => ?_)) (fun c => ?_))
  · have e2 : o2 = ((0 : Int32), (0 : Int32), (0 : Int32)) := e2
    subst e2
    exact Or.inl ⟨c, rfl⟩
  · exact Or.inr ⟨c, rfl⟩
theorem p4_almanac {vx : Nat → Int32} {fx : Nat → Nat → Int32} {gx : Nat → Nat → Int64} (h : TIx vx fx) {r : Int32} {v : Nat → Int32} {f : Nat → Nat → Int32} {g : Nat → Nat → Int64} (hx : (r, v, f, g) = xs_almanac vx fx gx) : TIx v f := by
  obtain ⟨O, hO⟩ : ∃ O, O = fX11_almanac (vx 1) (vx 3) (vx 4) (vx 7) (vx 8) (vx 10) (fx 0) (fx 46) (fx 47) (fx 48) (fx 49) (fx 50) (fx 51) (fx 52) (fx 53) (fx 54) (fx 55) (fx 56) (fx 57) := ⟨_, rfl⟩
  have key : Wr (fun o : Int32 × Int32 × Int32 × Int32 × Int32 × Int32 × Int32 × Int32 × Int32 × Int32 × Int32 × Int32 × Int32 × Int32 × Int32 × Int32 × Int32 × Int32 × Int32 × Int32 × (Nat → Int32) × (Nat → Int32) × (Nat → Int32) × (Nat → Int32) × (Nat → Int32) × (Nat → Int32) × (Nat → Int32) × (Nat → Int32) × (Nat → Int32) × (Nat → Int32) × (Nat → Int32) × (Nat → Int32) => (o.2.2.2.2.1 = 0 ∧ o.2.2.1 = 0) ∨ (¬ o.2.2.2.2.1 = 0 ∧ o.2.2.1 = vx 3)) O := by
    rw [hO]
    exact ft_almanac _ _ _ _ _ _ _ _ _ _ _ _ _ _ _ _ _ _ _
  have hx : (r, v, f, g) = xt_almanac vx fx gx O := by
    rw [hx, hO]
    rfl
  unfold xt_almanac at hx
  rcases key with ⟨c, q⟩ | ⟨c, q⟩
  · rw [if_pos c] at hx
    have e1 := congrArg (fun o => o.2.1) hx
    have e2 := congrArg (fun o => o.2.2.1) hx
    dsimp only at e1 e2
    subst e1 e2
    exact Or.inl q
  · rw [if_neg c] at hx
    have e1 := congrArg (fun o => o.2.1) hx
    have e2 := congrArg (fun o => o.2.2.1) hx
    dsimp only at e1 e2
    subst e1 e2
    exact t3_ct h (Or.inr ⟨q, rfl⟩)
def REL (vx : Nat → Int32) (fx : Nat → Nat → Int32) (gx : Nat → Nat → Int64) (mi : Nat → Int32) (fm : Nat → Nat → Int32) : Prop := REL3 vx fx mi fm ∧ TIx vx fx
theorem mip_of {mi : Nat → Int32} {fm : Nat → Nat → Int32} (hMI : MI mi fm) : MIp mi fm := ⟨hMI.2.2.2.2.2.2.2.2.2.2.2.2.2.2.2.2.2.2.2.2.2.2.1, hMI.2.2.2.2.2.2.2.2.2.2.2.2.2.2.2.2.2.2.2.2.2.2.2.1, hMI.2.2.2.2.2.2.2.2.2.2.2.2.2.2.2.2.2.2.2.2.2.2.2.2.2.2.2.2⟩
theorem pr_feed {vx : Nat → Int32} {fx : Nat → Nat → Int32} {gx : Nat → Nat → Int64} {mi : Nat → Int32} {fm : Nat → Nat → Int32} (hXI : XI vx fx) (hMI : MI mi fm) (h : REL vx fx gx mi fm) {r r2 : Int32} {v : Nat → Int32} {f : Nat → Nat → Int32} {g : Nat → Nat → Int64} {mi2 : Nat → Int32} {fm2 : Nat → Nat → Int32} {p1 p2 p3 p4 p5 : Int32} (hx : (r, v, f, g) = xs_feed vx fx gx p1 p2 p3 p4 p5) (hm : (r2, mi2, fm2) = ms_feed mi fm p1 p2 p3 p4 p5) : REL v f g mi2 fm2 ∧ r = r2 := ⟨⟨(r3_feed h.1 hx hm).1, p4_feed h.2 hx⟩, (r3_feed h.1 hx hm).2⟩
theorem pr_end {vx : Nat → Int32} {fx : Nat → Nat → Int32} {gx : Nat → Nat → Int64} {mi : Nat → Int32} {fm : Nat → Nat → Int32} (hXI : XI vx fx) (hMI : MI mi fm) (h : REL vx fx gx mi fm) {r r2 : Int32} {v : Nat → Int32} {f : Nat → Nat → Int32} {g : Nat → Nat → Int64} {mi2 : Nat → Int32} {fm2 : Nat → Nat → Int32} {p1 : Int32} (hx : (r, v, f, g) = xs_end vx fx gx p1) (hm : (r2, mi2, fm2) = ms_end mi fm p1) : REL v f g mi2 fm2 ∧ r = r2 := ⟨⟨(r3_end h.1 hx hm).1, p4_end h.2 hx⟩, (r3_end h.1 hx hm).2⟩
theorem pr_almanac {vx : Nat → Int32} {fx : Nat → Nat → Int32} {gx : Nat → Nat → Int64} {mi : Nat → Int32} {fm : Nat → Nat → Int32} (hXI : XI vx fx) (hMI : MI mi fm) (h : REL vx fx gx mi fm) {r r2 : Int32} {v : Nat → Int32} {f : Nat → Nat → Int32} {g : Nat → Nat → Int64} {mi2 : Nat → Int32} {fm2 : Nat → Nat → Int32} (hx : (r, v, f, g) = xs_almanac vx fx gx) (hm : (r2, mi2, fm2) = ms_almanac mi fm) : REL v f g mi2 fm2 ∧ r = r2 := ⟨⟨(r3_almanac h.1 (bz_cases hMI.2.2.2.1) (fun i hi => bz_cases (hMI.2.2.2.2.2.2.2.2.2.2.2.2.2.2.2.2.2.2.2.2.1 i hi)) hx hm).1, p4_almanac h.2 hx⟩, (r3_almanac h.1 (bz_cases hMI.2.2.2.1) (fun i hi => bz_cases (hMI.2.2.2.2.2.2.2.2.2.2.2.2.2.2.2.2.2.2.2.2.1 i hi)) hx hm).2⟩
theorem pr_fault {vx : Nat → Int32} {fx : Nat → Nat → Int32} {gx : Nat → Nat → Int64} {mi : Nat → Int32} {fm : Nat → Nat → Int32} (hXI : XI vx fx) (hMI : MI mi fm) (h : REL vx fx gx mi fm) {r r2 : Int32} {v : Nat → Int32} {f : Nat → Nat → Int32} {g : Nat → Nat → Int64} {mi2 : Nat → Int32} {fm2 : Nat → Nat → Int32} {p1 : Int32} (hx : (r, v, f, g) = xs_fault vx fx gx p1) (hm : (r2, mi2, fm2) = ms_fault mi fm p1) : REL v f g mi2 fm2 ∧ r = r2 := ⟨⟨(r3_fault h.1 hx hm).1, p4_fault h.2 hx⟩, (r3_fault h.1 hx hm).2⟩
theorem pr_count {vx : Nat → Int32} {fx : Nat → Nat → Int32} {gx : Nat → Nat → Int64} {mi : Nat → Int32} {fm : Nat → Nat → Int32} (hXI : XI vx fx) (hMI : MI mi fm) (h : REL vx fx gx mi fm) {r r2 : Int32} {v : Nat → Int32} {f : Nat → Nat → Int32} {g : Nat → Nat → Int64} {mi2 : Nat → Int32} {fm2 : Nat → Nat → Int32} {p1 : Int32} (hx : (r, v, f, g) = xs_count vx fx gx p1) (hm : (r2, mi2, fm2) = ms_count mi fm p1) : REL v f g mi2 fm2 ∧ r = r2 := ⟨⟨(r3_count h.1 hx hm).1, p4_count h.2 hx⟩, (r3_count h.1 hx hm).2⟩
theorem pr_place {vx : Nat → Int32} {fx : Nat → Nat → Int32} {gx : Nat → Nat → Int64} {mi : Nat → Int32} {fm : Nat → Nat → Int32} (hXI : XI vx fx) (hMI : MI mi fm) (h : REL vx fx gx mi fm) {r r2 : Int32} {v : Nat → Int32} {f : Nat → Nat → Int32} {g : Nat → Nat → Int64} {mi2 : Nat → Int32} {fm2 : Nat → Nat → Int32} {p1 p2 : Int32} (hx : (r, v, f, g) = xs_place vx fx gx p1 p2) (hm : (r2, mi2, fm2) = ms_place mi fm p1 p2) : REL v f g mi2 fm2 ∧ r = r2 := ⟨⟨(r3_place h.1 (fun i hi => bz_cases (hXI.2.2.2.2.2.2.2.2.2.2.2.2.2.2.2.2.2.2.2.2.2.2.2.2.2.2.2.2.2.2.2.2.2.2.2.2.2.2.2.2.2.2.2.2.2.2.2.2.2.2.2.2.2.2.1 i hi)) hx hm).1, p4_place h.2 hx⟩, (r3_place h.1 (fun i hi => bz_cases (hXI.2.2.2.2.2.2.2.2.2.2.2.2.2.2.2.2.2.2.2.2.2.2.2.2.2.2.2.2.2.2.2.2.2.2.2.2.2.2.2.2.2.2.2.2.2.2.2.2.2.2.2.2.2.2.1 i hi)) hx hm).2⟩
theorem pr_report {vx : Nat → Int32} {fx : Nat → Nat → Int32} {gx : Nat → Nat → Int64} {mi : Nat → Int32} {fm : Nat → Nat → Int32} (hXI : XI vx fx) (hMI : MI mi fm) (h : REL vx fx gx mi fm) {r r2 : Int32} {v : Nat → Int32} {f : Nat → Nat → Int32} {g : Nat → Nat → Int64} {mi2 : Nat → Int32} {fm2 : Nat → Nat → Int32} {p1 p2 : Int32} (hx : (r, v, f, g) = xs_report vx fx gx p1 p2) (hm : (r2, mi2, fm2) = ms_report mi fm p1 p2) : REL v f g mi2 fm2 ∧ r = r2 := ⟨⟨(r3_report h.1 (fun i hi => bz_cases (hXI.2.2.2.2.2.2.2.2.2.2.2.2.2.2.2.2.2.2.2.2.2.2.2.2.2.2.2.2.2.2.2.2.2.2.2.2.2.2.2.2.2.2.2.2.2.2.2.2.2.2.2.2.2.2.1 i hi)) hx hm).1, p4_report h.2 hx⟩, (r3_report h.1 (fun i hi => bz_cases (hXI.2.2.2.2.2.2.2.2.2.2.2.2.2.2.2.2.2.2.2.2.2.2.2.2.2.2.2.2.2.2.2.2.2.2.2.2.2.2.2.2.2.2.2.2.2.2.2.2.2.2.2.2.2.2.1 i hi)) hx hm).2⟩
theorem pr_deed {vx : Nat → Int32} {fx : Nat → Nat → Int32} {gx : Nat → Nat → Int64} {mi : Nat → Int32} {fm : Nat → Nat → Int32} (hXI : XI vx fx) (hMI : MI mi fm) (h : REL vx fx gx mi fm) {r r2 : Int32} {v : Nat → Int32} {f : Nat → Nat → Int32} {g : Nat → Nat → Int64} {mi2 : Nat → Int32} {fm2 : Nat → Nat → Int32} {p1 p2 : Int32} (hx : (r, v, f, g) = xs_deed vx fx gx p1 p2) (hm : (r2, mi2, fm2) = ms_deed mi fm p1 p2) : REL v f g mi2 fm2 ∧ r = r2 := ⟨⟨(r3_deed h.1 (fun i hi => bz_cases (hXI.2.2.2.2.2.2.2.2.2.2.2.2.2.2.2.2.2.2.2.2.2.2.2.2.2.2.2.2.2.2.2.2.2.2.2.2.2.2.2.2.2.2.2.2.2.2.2.2.2.2.2.2.2.2.1 i hi)) hx hm).1, p4_deed h.2 hx⟩, (r3_deed h.1 (fun i hi => bz_cases (hXI.2.2.2.2.2.2.2.2.2.2.2.2.2.2.2.2.2.2.2.2.2.2.2.2.2.2.2.2.2.2.2.2.2.2.2.2.2.2.2.2.2.2.2.2.2.2.2.2.2.2.2.2.2.2.1 i hi)) hx hm).2⟩
theorem pr_early {vx : Nat → Int32} {fx : Nat → Nat → Int32} {gx : Nat → Nat → Int64} {mi : Nat → Int32} {fm : Nat → Nat → Int32} (hXI : XI vx fx) (hMI : MI mi fm) (h : REL vx fx gx mi fm) {r r2 : Int32} {v : Nat → Int32} {f : Nat → Nat → Int32} {g : Nat → Nat → Int64} {mi2 : Nat → Int32} {fm2 : Nat → Nat → Int32} {p1 : Int32} (hx : (r, v, f, g) = xs_early vx fx gx p1) (hm : (r2, mi2, fm2) = ms_early mi fm p1) : REL v f g mi2 fm2 ∧ r = r2 := ⟨⟨(r3_early h.1 (fun i hi => bz_cases (hXI.2.2.2.2.2.2.2.2.2.2.2.2.2.2.2.2.2.2.2.2.2.2.2.2.2.2.2.2.2.2.2.2.2.2.2.2.2.2.2.2.2.2.2.2.2.2.2.2.2.2.2.2.2.2.1 i hi)) hx hm).1, p4_early h.2 hx⟩, (r3_early h.1 (fun i hi => bz_cases (hXI.2.2.2.2.2.2.2.2.2.2.2.2.2.2.2.2.2.2.2.2.2.2.2.2.2.2.2.2.2.2.2.2.2.2.2.2.2.2.2.2.2.2.2.2.2.2.2.2.2.2.2.2.2.2.1 i hi)) hx hm).2⟩
theorem pr_judged {vx : Nat → Int32} {fx : Nat → Nat → Int32} {gx : Nat → Nat → Int64} {mi : Nat → Int32} {fm : Nat → Nat → Int32} (hXI : XI vx fx) (hMI : MI mi fm) (h : REL vx fx gx mi fm) {r r2 : Int32} {v : Nat → Int32} {f : Nat → Nat → Int32} {g : Nat → Nat → Int64} {mi2 : Nat → Int32} {fm2 : Nat → Nat → Int32} {p1 p2 : Int32} (hx : (r, v, f, g) = xs_judged vx fx gx p1 p2) (hm : (r2, mi2, fm2) = ms_judged mi fm p1 p2) : REL v f g mi2 fm2 ∧ r = r2 := ⟨⟨(r3_judged (mip_of hMI) h.1 hx hm).1, p4_judged h.2 hx⟩, (r3_judged (mip_of hMI) h.1 hx hm).2⟩
theorem pr_taken {vx : Nat → Int32} {fx : Nat → Nat → Int32} {gx : Nat → Nat → Int64} {mi : Nat → Int32} {fm : Nat → Nat → Int32} (hXI : XI vx fx) (hMI : MI mi fm) (h : REL vx fx gx mi fm) {r r2 : Int32} {v : Nat → Int32} {f : Nat → Nat → Int32} {g : Nat → Nat → Int64} {mi2 : Nat → Int32} {fm2 : Nat → Nat → Int32} {p1 : Int32} (hx : (r, v, f, g) = xs_taken vx fx gx p1) (hm : (r2, mi2, fm2) = ms_taken mi fm p1) : REL v f g mi2 fm2 ∧ r = r2 := ⟨⟨(r3_taken (mip_of hMI) h.1 hx hm).1, p4_taken h.2 hx⟩, (r3_taken (mip_of hMI) h.1 hx hm).2⟩
theorem pr_order {vx : Nat → Int32} {fx : Nat → Nat → Int32} {gx : Nat → Nat → Int64} {mi : Nat → Int32} {fm : Nat → Nat → Int32} (hXI : XI vx fx) (hMI : MI mi fm) (h : REL vx fx gx mi fm) {r r2 : Int32} {v : Nat → Int32} {f : Nat → Nat → Int32} {g : Nat → Nat → Int64} {mi2 : Nat → Int32} {fm2 : Nat → Nat → Int32} {p1 p2 : Int32} (hx : (r, v, f, g) = xs_order vx fx gx p1 p2) (hm : (r2, mi2, fm2) = ms_order mi fm p1 p2) : REL v f g mi2 fm2 ∧ r = r2 := ⟨⟨(r3_order (mip_of hMI) h.1 hx hm).1, p4_order h.2 hx⟩, (r3_order (mip_of hMI) h.1 hx hm).2⟩
theorem pr_against {vx : Nat → Int32} {fx : Nat → Nat → Int32} {gx : Nat → Nat → Int64} {mi : Nat → Int32} {fm : Nat → Nat → Int32} (hXI : XI vx fx) (hMI : MI mi fm) (h : REL vx fx gx mi fm) {r r2 : Int32} {v : Nat → Int32} {f : Nat → Nat → Int32} {g : Nat → Nat → Int64} {mi2 : Nat → Int32} {fm2 : Nat → Nat → Int32} {p1 p2 : Int32} (hx : (r, v, f, g) = xs_against vx fx gx p1 p2) (hm : (r2, mi2, fm2) = ms_against mi fm p1 p2) : REL v f g mi2 fm2 ∧ r = r2 := ⟨⟨(r3_against (mip_of hMI) h.1 hx hm).1, p4_against h.2 hx⟩, (r3_against (mip_of hMI) h.1 hx hm).2⟩
theorem pr_blind {vx : Nat → Int32} {fx : Nat → Nat → Int32} {gx : Nat → Nat → Int64} {mi : Nat → Int32} {fm : Nat → Nat → Int32} (hXI : XI vx fx) (hMI : MI mi fm) (h : REL vx fx gx mi fm) {r r2 : Int32} {v : Nat → Int32} {f : Nat → Nat → Int32} {g : Nat → Nat → Int64} {mi2 : Nat → Int32} {fm2 : Nat → Nat → Int32} {p1 p2 : Int32} (hx : (r, v, f, g) = xs_blind vx fx gx p1 p2) (hm : (r2, mi2, fm2) = ms_blind mi fm p1 p2) : REL v f g mi2 fm2 ∧ r = r2 := ⟨⟨(r3_blind h.1 (fun i hi => bz_cases (hXI.2.2.2.2.2.2.2.2.2.2.2.2.2.2.2.2.2.2.2.2.2.2.2.2.2.2.2.2.2.2.2.2.2.2.2.2.2.2.2.2.2.2.2.2.2.2.2.2.2.2.2.2.2.2.1 i hi)) hx hm).1, p4_blind h.2 hx⟩, (r3_blind h.1 (fun i hi => bz_cases (hXI.2.2.2.2.2.2.2.2.2.2.2.2.2.2.2.2.2.2.2.2.2.2.2.2.2.2.2.2.2.2.2.2.2.2.2.2.2.2.2.2.2.2.2.2.2.2.2.2.2.2.2.2.2.2.1 i hi)) hx hm).2⟩
theorem pr_ways {vx : Nat → Int32} {fx : Nat → Nat → Int32} {gx : Nat → Nat → Int64} {mi : Nat → Int32} {fm : Nat → Nat → Int32} (hXI : XI vx fx) (hMI : MI mi fm) (h : REL vx fx gx mi fm) {r r2 : Int32} {v : Nat → Int32} {f : Nat → Nat → Int32} {g : Nat → Nat → Int64} {mi2 : Nat → Int32} {fm2 : Nat → Nat → Int32} {p1 : Int32} (hx : (r, v, f, g) = xs_ways vx fx gx p1) (hm : (r2, mi2, fm2) = ms_ways mi fm p1) : REL v f g mi2 fm2 ∧ r = r2 := ⟨⟨p3_ways (mip_of hMI) h.1 hx hm, p4_ways (mip_of hMI) h.1 h.2 hx⟩, a4_ways (mip_of hMI) h.1 h.2 hx hm⟩
theorem pr_begin {vx : Nat → Int32} {fx : Nat → Nat → Int32} {gx : Nat → Nat → Int64} {mi : Nat → Int32} {fm : Nat → Nat → Int32} (hXI : XI vx fx) (hMI : MI mi fm) (h : REL vx fx gx mi fm) {r r2 : Int32} {v : Nat → Int32} {f : Nat → Nat → Int32} {g : Nat → Nat → Int64} {mi2 : Nat → Int32} {fm2 : Nat → Nat → Int32} {p1 p2 : Int32} (hx : (r, v, f, g) = xs_begin vx fx gx p1 p2) (hm : (r2, mi2, fm2) = ms_begin mi fm p1 p2) : REL v f g mi2 fm2 ∧ r = r2 := ⟨⟨(r3_begin (mip_of hMI) h.1 hx hm).1, p4_begin h.2 hx⟩, (r3_begin (mip_of hMI) h.1 hx hm).2⟩
theorem pr_span {vx : Nat → Int32} {fx : Nat → Nat → Int32} {gx : Nat → Nat → Int64} {mi : Nat → Int32} {fm : Nat → Nat → Int32} (hXI : XI vx fx) (hMI : MI mi fm) (h : REL vx fx gx mi fm) {r r2 : Int32} {v : Nat → Int32} {f : Nat → Nat → Int32} {g : Nat → Nat → Int64} {mi2 : Nat → Int32} {fm2 : Nat → Nat → Int32} {p1 p2 p3 : Int32} (hx : (r, v, f, g) = xs_span vx fx gx p1 p2 p3) (hm : (r2, mi2, fm2) = ms_span mi fm p1 p2 p3) : REL v f g mi2 fm2 ∧ r = r2 := ⟨⟨p3_span (mip_of hMI) h.1 hx hm, p4_span (mip_of hMI) h.1 h.2 hx⟩, a4_span (mip_of hMI) h.1 h.2 hx hm⟩
theorem pr_sure {vx : Nat → Int32} {fx : Nat → Nat → Int32} {gx : Nat → Nat → Int64} {mi : Nat → Int32} {fm : Nat → Nat → Int32} (hXI : XI vx fx) (hMI : MI mi fm) (h : REL vx fx gx mi fm) {r r2 : Int32} {v : Nat → Int32} {f : Nat → Nat → Int32} {g : Nat → Nat → Int64} {mi2 : Nat → Int32} {fm2 : Nat → Nat → Int32} {p1 : Int32} (hx : (r, v, f, g) = xs_sure vx fx gx p1) (hm : (r2, mi2, fm2) = ms_sure mi fm p1) : REL v f g mi2 fm2 ∧ r = r2 := ⟨⟨p3_sure (mip_of hMI) h.1 hx hm, p4_sure (mip_of hMI) h.1 h.2 hx⟩, a4_sure (mip_of hMI) h.1 h.2 hx hm⟩
theorem pr_lasts {vx : Nat → Int32} {fx : Nat → Nat → Int32} {gx : Nat → Nat → Int64} {mi : Nat → Int32} {fm : Nat → Nat → Int32} (hXI : XI vx fx) (hMI : MI mi fm) (h : REL vx fx gx mi fm) {r r2 : Int32} {v : Nat → Int32} {f : Nat → Nat → Int32} {g : Nat → Nat → Int64} {mi2 : Nat → Int32} {fm2 : Nat → Nat → Int32} {p1 p2 : Int32} (hx : (r, v, f, g) = xs_lasts vx fx gx p1 p2) (hm : (r2, mi2, fm2) = ms_lasts mi fm p1 p2) : REL v f g mi2 fm2 ∧ r = r2 := ⟨⟨(r3_lasts (mip_of hMI) h.1 hx hm).1, p4_lasts h.2 hx⟩, (r3_lasts (mip_of hMI) h.1 hx hm).2⟩
theorem pr_could {vx : Nat → Int32} {fx : Nat → Nat → Int32} {gx : Nat → Nat → Int64} {mi : Nat → Int32} {fm : Nat → Nat → Int32} (hXI : XI vx fx) (hMI : MI mi fm) (h : REL vx fx gx mi fm) {r r2 : Int32} {v : Nat → Int32} {f : Nat → Nat → Int32} {g : Nat → Nat → Int64} {mi2 : Nat → Int32} {fm2 : Nat → Nat → Int32} {p1 p2 p3 : Int32} (hx : (r, v, f, g) = xs_could vx fx gx p1 p2 p3) (hm : (r2, mi2, fm2) = ms_could mi fm p1 p2 p3) : REL v f g mi2 fm2 ∧ r = r2 := ⟨⟨p3_could (mip_of hMI) h.1 hx hm, p4_could (mip_of hMI) h.1 h.2 hx⟩, a4_could (mip_of hMI) h.1 h.2 hx hm⟩
theorem pr_lean {vx : Nat → Int32} {fx : Nat → Nat → Int32} {gx : Nat → Nat → Int64} {mi : Nat → Int32} {fm : Nat → Nat → Int32} (hXI : XI vx fx) (hMI : MI mi fm) (h : REL vx fx gx mi fm) {r r2 : Int32} {v : Nat → Int32} {f : Nat → Nat → Int32} {g : Nat → Nat → Int64} {mi2 : Nat → Int32} {fm2 : Nat → Nat → Int32} {p1 p2 : Int32} (hx : (r, v, f, g) = xs_lean vx fx gx p1 p2) (hm : (r2, mi2, fm2) = ms_lean mi fm p1 p2) : REL v f g mi2 fm2 ∧ r = r2 := ⟨⟨p3_lean (mip_of hMI) h.1 hx hm, p4_lean (mip_of hMI) h.1 h.2 hx⟩, a4_lean (mip_of hMI) h.1 h.2 hx hm⟩
theorem pr_ranked {vx : Nat → Int32} {fx : Nat → Nat → Int32} {gx : Nat → Nat → Int64} {mi : Nat → Int32} {fm : Nat → Nat → Int32} (hXI : XI vx fx) (hMI : MI mi fm) (h : REL vx fx gx mi fm) {r r2 : Int32} {v : Nat → Int32} {f : Nat → Nat → Int32} {g : Nat → Nat → Int64} {mi2 : Nat → Int32} {fm2 : Nat → Nat → Int32} {p1 p2 p3 : Int32} (hx : (r, v, f, g) = xs_ranked vx fx gx p1 p2 p3) (hm : (r2, mi2, fm2) = ms_ranked mi fm p1 p2 p3) : REL v f g mi2 fm2 := ⟨p3_ranked (mip_of hMI) h.1 hx hm, p4_ranked (mip_of hMI) h.1 h.2 hx⟩
theorem pr_rank {vx : Nat → Int32} {fx : Nat → Nat → Int32} {gx : Nat → Nat → Int64} {mi : Nat → Int32} {fm : Nat → Nat → Int32} (hXI : XI vx fx) (hMI : MI mi fm) (h : REL vx fx gx mi fm) {r r2 : Int32} {v : Nat → Int32} {f : Nat → Nat → Int32} {g : Nat → Nat → Int64} {mi2 : Nat → Int32} {fm2 : Nat → Nat → Int32} {p1 p2 : Int32} (hx : (r, v, f, g) = xs_rank vx fx gx p1 p2) (hm : (r2, mi2, fm2) = ms_rank mi fm p1 p2) : REL v f g mi2 fm2 := ⟨p3_rank (mip_of hMI) h.1 hx hm, p4_rank (mip_of hMI) h.1 h.2 hx⟩
theorem pr_drawn {vx : Nat → Int32} {fx : Nat → Nat → Int32} {gx : Nat → Nat → Int64} {mi : Nat → Int32} {fm : Nat → Nat → Int32} (hXI : XI vx fx) (hMI : MI mi fm) (h : REL vx fx gx mi fm) {r r2 : Int32} {v : Nat → Int32} {f : Nat → Nat → Int32} {g : Nat → Nat → Int64} {mi2 : Nat → Int32} {fm2 : Nat → Nat → Int32} {p1 p2 : Int32} (hx : (r, v, f, g) = xs_drawn vx fx gx p1 p2) (hm : (r2, mi2, fm2) = ms_drawn mi fm p1 p2) : REL v f g mi2 fm2 ∧ r = r2 := ⟨⟨p3_drawn (mip_of hMI) h.1 hx hm, p4_drawn (mip_of hMI) h.1 h.2 hx⟩, a4_drawn (mip_of hMI) h.1 h.2 hx hm⟩
theorem pr_day {vx : Nat → Int32} {fx : Nat → Nat → Int32} {gx : Nat → Nat → Int64} {mi : Nat → Int32} {fm : Nat → Nat → Int32} (hXI : XI vx fx) (hMI : MI mi fm) (h : REL vx fx gx mi fm) {r r2 : Int32} {v : Nat → Int32} {f : Nat → Nat → Int32} {g : Nat → Nat → Int64} {mi2 : Nat → Int32} {fm2 : Nat → Nat → Int32} {p1 p2 p3 : Int32} (hx : (r, v, f, g) = xs_day vx fx gx p1 p2 p3) (hm : (r2, mi2, fm2) = ms_day mi fm p1 p2 p3) : REL v f g mi2 fm2 ∧ r = r2 := ⟨⟨(r3_day (mip_of hMI) h.1 hx hm).1, p4_day h.2 hx⟩, (r3_day (mip_of hMI) h.1 hx hm).2⟩
theorem pr_date {vx : Nat → Int32} {fx : Nat → Nat → Int32} {gx : Nat → Nat → Int64} {mi : Nat → Int32} {fm : Nat → Nat → Int32} (hXI : XI vx fx) (hMI : MI mi fm) (h : REL vx fx gx mi fm) {r r2 : Int32} {v : Nat → Int32} {f : Nat → Nat → Int32} {g : Nat → Nat → Int64} {mi2 : Nat → Int32} {fm2 : Nat → Nat → Int32} {p1 p2 : Int32} (hx : (r, v, f, g) = xs_date vx fx gx p1 p2) (hm : (r2, mi2, fm2) = ms_date mi fm p1 p2) : REL v f g mi2 fm2 ∧ r = r2 := ⟨⟨(r3_date (mip_of hMI) h.1 hx hm).1, p4_date h.2 hx⟩, (r3_date (mip_of hMI) h.1 hx hm).2⟩
theorem pr_dates {vx : Nat → Int32} {fx : Nat → Nat → Int32} {gx : Nat → Nat → Int64} {mi : Nat → Int32} {fm : Nat → Nat → Int32} (hXI : XI vx fx) (hMI : MI mi fm) (h : REL vx fx gx mi fm) {r r2 : Int32} {v : Nat → Int32} {f : Nat → Nat → Int32} {g : Nat → Nat → Int64} {mi2 : Nat → Int32} {fm2 : Nat → Nat → Int32} {p1 p2 : Int32} (hx : (r, v, f, g) = xs_dates vx fx gx p1 p2) (hm : (r2, mi2, fm2) = ms_dates mi fm p1 p2) : REL v f g mi2 fm2 := ⟨p3_dates (mip_of hMI) h.1 hx hm, p4_dates (mip_of hMI) h.1 h.2 hx⟩
theorem pr_likely {vx : Nat → Int32} {fx : Nat → Nat → Int32} {gx : Nat → Nat → Int64} {mi : Nat → Int32} {fm : Nat → Nat → Int32} (hXI : XI vx fx) (hMI : MI mi fm) (h : REL vx fx gx mi fm) {r r2 : Int32} {v : Nat → Int32} {f : Nat → Nat → Int32} {g : Nat → Nat → Int64} {mi2 : Nat → Int32} {fm2 : Nat → Nat → Int32} {p1 p2 : Int32} (hx : (r, v, f, g) = xs_likely vx fx gx p1 p2) (hm : (r2, mi2, fm2) = ms_likely mi fm p1 p2) : REL v f g mi2 fm2 := ⟨p3_likely (mip_of hMI) h.1 hx hm, p4_likely (mip_of hMI) h.1 h.2 hx⟩
theorem pr_moved {vx : Nat → Int32} {fx : Nat → Nat → Int32} {gx : Nat → Nat → Int64} {mi : Nat → Int32} {fm : Nat → Nat → Int32} (hXI : XI vx fx) (hMI : MI mi fm) (h : REL vx fx gx mi fm) {r r2 : Int32} {v : Nat → Int32} {f : Nat → Nat → Int32} {g : Nat → Nat → Int64} {mi2 : Nat → Int32} {fm2 : Nat → Nat → Int32} {p1 p2 p3 : Int32} (hx : (r, v, f, g) = xs_moved vx fx gx p1 p2 p3) (hm : (r2, mi2, fm2) = ms_moved mi fm p1 p2 p3) : REL v f g mi2 fm2 ∧ r = r2 := ⟨⟨(r3_moved (mip_of hMI) h.1 hx hm).1, p4_moved h.2 hx⟩, (r3_moved (mip_of hMI) h.1 hx hm).2⟩
theorem pr_shifts {vx : Nat → Int32} {fx : Nat → Nat → Int32} {gx : Nat → Nat → Int64} {mi : Nat → Int32} {fm : Nat → Nat → Int32} (hXI : XI vx fx) (hMI : MI mi fm) (h : REL vx fx gx mi fm) {r r2 : Int32} {v : Nat → Int32} {f : Nat → Nat → Int32} {g : Nat → Nat → Int64} {mi2 : Nat → Int32} {fm2 : Nat → Nat → Int32} {p1 : Int32} (hx : (r, v, f, g) = xs_shifts vx fx gx p1) (hm : (r2, mi2, fm2) = ms_shifts mi fm p1) : REL v f g mi2 fm2 ∧ r = r2 := ⟨⟨(r3_shifts (mip_of hMI) h.1 hx hm).1, p4_shifts h.2 hx⟩, (r3_shifts (mip_of hMI) h.1 hx hm).2⟩
theorem pr_settled {vx : Nat → Int32} {fx : Nat → Nat → Int32} {gx : Nat → Nat → Int64} {mi : Nat → Int32} {fm : Nat → Nat → Int32} (hXI : XI vx fx) (hMI : MI mi fm) (h : REL vx fx gx mi fm) {r r2 : Int32} {v : Nat → Int32} {f : Nat → Nat → Int32} {g : Nat → Nat → Int64} {mi2 : Nat → Int32} {fm2 : Nat → Nat → Int32} {p1 : Int32} (hx : (r, v, f, g) = xs_settled vx fx gx p1) (hm : (r2, mi2, fm2) = ms_settled mi fm p1) : REL v f g mi2 fm2 ∧ r = r2 := ⟨⟨(r3_settled (mip_of hMI) h.1 hx hm).1, p4_settled h.2 hx⟩, (r3_settled (mip_of hMI) h.1 hx hm).2⟩
theorem pr_due {vx : Nat → Int32} {fx : Nat → Nat → Int32} {gx : Nat → Nat → Int64} {mi : Nat → Int32} {fm : Nat → Nat → Int32} (hXI : XI vx fx) (hMI : MI mi fm) (h : REL vx fx gx mi fm) {r r2 : Int32} {v : Nat → Int32} {f : Nat → Nat → Int32} {g : Nat → Nat → Int64} {mi2 : Nat → Int32} {fm2 : Nat → Nat → Int32} {p1 p2 : Int32} (hx : (r, v, f, g) = xs_due vx fx gx p1 p2) (hm : (r2, mi2, fm2) = ms_due mi fm p1 p2) : REL v f g mi2 fm2 ∧ r = r2 := ⟨⟨(r3_due (mip_of hMI) h.1 hx hm).1, p4_due h.2 hx⟩, (r3_due (mip_of hMI) h.1 hx hm).2⟩
theorem pr_dueSpan {vx : Nat → Int32} {fx : Nat → Nat → Int32} {gx : Nat → Nat → Int64} {mi : Nat → Int32} {fm : Nat → Nat → Int32} (hXI : XI vx fx) (hMI : MI mi fm) (h : REL vx fx gx mi fm) {r r2 : Int32} {v : Nat → Int32} {f : Nat → Nat → Int32} {g : Nat → Nat → Int64} {mi2 : Nat → Int32} {fm2 : Nat → Nat → Int32} {p1 p2 p3 : Int32} (hx : (r, v, f, g) = xs_dueSpan vx fx gx p1 p2 p3) (hm : (r2, mi2, fm2) = ms_dueSpan mi fm p1 p2 p3) : REL v f g mi2 fm2 := ⟨p3_dueSpan (mip_of hMI) h.1 hx hm, p4_dueSpan (mip_of hMI) h.1 h.2 hx⟩
theorem pr_dueOn {vx : Nat → Int32} {fx : Nat → Nat → Int32} {gx : Nat → Nat → Int64} {mi : Nat → Int32} {fm : Nat → Nat → Int32} (hXI : XI vx fx) (hMI : MI mi fm) (h : REL vx fx gx mi fm) {r r2 : Int32} {v : Nat → Int32} {f : Nat → Nat → Int32} {g : Nat → Nat → Int64} {mi2 : Nat → Int32} {fm2 : Nat → Nat → Int32} {p1 p2 p3 : Int32} (hx : (r, v, f, g) = xs_dueOn vx fx gx p1 p2 p3) (hm : (r2, mi2, fm2) = ms_dueOn mi fm p1 p2 p3) : REL v f g mi2 fm2 := ⟨p3_dueOn (mip_of hMI) h.1 hx hm, p4_dueOn (mip_of hMI) h.1 h.2 hx⟩
theorem pr_redated {vx : Nat → Int32} {fx : Nat → Nat → Int32} {gx : Nat → Nat → Int64} {mi : Nat → Int32} {fm : Nat → Nat → Int32} (hXI : XI vx fx) (hMI : MI mi fm) (h : REL vx fx gx mi fm) {r r2 : Int32} {v : Nat → Int32} {f : Nat → Nat → Int32} {g : Nat → Nat → Int64} {mi2 : Nat → Int32} {fm2 : Nat → Nat → Int32} {p1 : Int32} (hx : (r, v, f, g) = xs_redated vx fx gx p1) (hm : (r2, mi2, fm2) = ms_redated mi fm p1) : REL v f g mi2 fm2 ∧ r = r2 := ⟨⟨(r3_redated (mip_of hMI) h.1 hx hm).1, p4_redated h.2 hx⟩, (r3_redated (mip_of hMI) h.1 hx hm).2⟩
theorem pr_longer {vx : Nat → Int32} {fx : Nat → Nat → Int32} {gx : Nat → Nat → Int64} {mi : Nat → Int32} {fm : Nat → Nat → Int32} (hXI : XI vx fx) (hMI : MI mi fm) (h : REL vx fx gx mi fm) {r r2 : Int32} {v : Nat → Int32} {f : Nat → Nat → Int32} {g : Nat → Nat → Int64} {mi2 : Nat → Int32} {fm2 : Nat → Nat → Int32} {p1 p2 p3 : Int32} (hx : (r, v, f, g) = xs_longer vx fx gx p1 p2 p3) (hm : (r2, mi2, fm2) = ms_longer mi fm p1 p2 p3) : REL v f g mi2 fm2 := ⟨p3_longer (mip_of hMI) h.1 hx hm, p4_longer h.2 hx⟩
theorem pr_own {vx : Nat → Int32} {fx : Nat → Nat → Int32} {gx : Nat → Nat → Int64} {mi : Nat → Int32} {fm : Nat → Nat → Int32} (hXI : XI vx fx) (hMI : MI mi fm) (h : REL vx fx gx mi fm) {r r2 : Int32} {v : Nat → Int32} {f : Nat → Nat → Int32} {g : Nat → Nat → Int64} {mi2 : Nat → Int32} {fm2 : Nat → Nat → Int32} {p1 p2 p3 : Int32} (hx : (r, v, f, g) = xs_own vx fx gx p1 p2 p3) (hm : (r2, mi2, fm2) = ms_own mi fm p1 p2 p3) : REL v f g mi2 fm2 ∧ r = r2 := ⟨⟨(r3_own (mip_of hMI) h.1 hx hm).1, p4_own h.2 hx⟩, (r3_own (mip_of hMI) h.1 hx hm).2⟩
theorem pr_apart {vx : Nat → Int32} {fx : Nat → Nat → Int32} {gx : Nat → Nat → Int64} {mi : Nat → Int32} {fm : Nat → Nat → Int32} (hXI : XI vx fx) (hMI : MI mi fm) (h : REL vx fx gx mi fm) {r r2 : Int32} {v : Nat → Int32} {f : Nat → Nat → Int32} {g : Nat → Nat → Int64} {mi2 : Nat → Int32} {fm2 : Nat → Nat → Int32} {p1 p2 p3 : Int32} (hx : (r, v, f, g) = xs_apart vx fx gx p1 p2 p3) (hm : (r2, mi2, fm2) = ms_apart mi fm p1 p2 p3) : REL v f g mi2 fm2 ∧ r = r2 := ⟨⟨(r3_apart (mip_of hMI) h.1 hx hm).1, p4_apart h.2 hx⟩, (r3_apart (mip_of hMI) h.1 hx hm).2⟩
theorem pr_hang {vx : Nat → Int32} {fx : Nat → Nat → Int32} {gx : Nat → Nat → Int64} {mi : Nat → Int32} {fm : Nat → Nat → Int32} (hXI : XI vx fx) (hMI : MI mi fm) (h : REL vx fx gx mi fm) {r r2 : Int32} {v : Nat → Int32} {f : Nat → Nat → Int32} {g : Nat → Nat → Int64} {mi2 : Nat → Int32} {fm2 : Nat → Nat → Int32} {p1 p2 : Int32} (hx : (r, v, f, g) = xs_hang vx fx gx p1 p2) (hm : (r2, mi2, fm2) = ms_hang mi fm p1 p2) : REL v f g mi2 fm2 ∧ r = r2 := ⟨⟨(r3_hang (mip_of hMI) h.1 hx hm).1, p4_hang h.2 hx⟩, (r3_hang (mip_of hMI) h.1 hx hm).2⟩
theorem pr_telling {vx : Nat → Int32} {fx : Nat → Nat → Int32} {gx : Nat → Nat → Int64} {mi : Nat → Int32} {fm : Nat → Nat → Int32} (hXI : XI vx fx) (hMI : MI mi fm) (h : REL vx fx gx mi fm) {r r2 : Int32} {v : Nat → Int32} {f : Nat → Nat → Int32} {g : Nat → Nat → Int64} {mi2 : Nat → Int32} {fm2 : Nat → Nat → Int32} {p1 : Int32} (hx : (r, v, f, g) = xs_telling vx fx gx p1) (hm : (r2, mi2, fm2) = ms_telling mi fm p1) : REL v f g mi2 fm2 ∧ r = r2 := ⟨⟨p3_telling (mip_of hMI) h.1 hx hm, p4_telling (mip_of hMI) h.1 h.2 hx⟩, a4_telling (mip_of hMI) h.1 h.2 hx hm⟩
theorem pr_trusted {vx : Nat → Int32} {fx : Nat → Nat → Int32} {gx : Nat → Nat → Int64} {mi : Nat → Int32} {fm : Nat → Nat → Int32} (hXI : XI vx fx) (hMI : MI mi fm) (h : REL vx fx gx mi fm) {r r2 : Int32} {v : Nat → Int32} {f : Nat → Nat → Int32} {g : Nat → Nat → Int64} {mi2 : Nat → Int32} {fm2 : Nat → Nat → Int32} {p1 p2 : Int32} (hx : (r, v, f, g) = xs_trusted vx fx gx p1 p2) (hm : (r2, mi2, fm2) = ms_trusted mi fm p1 p2) : REL v f g mi2 fm2 ∧ r = r2 := ⟨⟨(r3_trusted (mip_of hMI) h.1 hx hm).1, p4_trusted h.2 hx⟩, (r3_trusted (mip_of hMI) h.1 hx hm).2⟩
theorem pr_days {vx : Nat → Int32} {fx : Nat → Nat → Int32} {gx : Nat → Nat → Int64} {mi : Nat → Int32} {fm : Nat → Nat → Int32} (hXI : XI vx fx) (hMI : MI mi fm) (h : REL vx fx gx mi fm) {r r2 : Int32} {v : Nat → Int32} {f : Nat → Nat → Int32} {g : Nat → Nat → Int64} {mi2 : Nat → Int32} {fm2 : Nat → Nat → Int32} {p1 p2 : Int32} (hx : (r, v, f, g) = xs_days vx fx gx p1 p2) (hm : (r2, mi2, fm2) = ms_days mi fm p1 p2) : REL v f g mi2 fm2 ∧ r = r2 := ⟨⟨(r3_days (mip_of hMI) h.1 hx hm).1, p4_days h.2 hx⟩, (r3_days (mip_of hMI) h.1 hx hm).2⟩
theorem pr_weekday {vx : Nat → Int32} {fx : Nat → Nat → Int32} {gx : Nat → Nat → Int64} {mi : Nat → Int32} {fm : Nat → Nat → Int32} (hXI : XI vx fx) (hMI : MI mi fm) (h : REL vx fx gx mi fm) {r r2 : Int32} {v : Nat → Int32} {f : Nat → Nat → Int32} {g : Nat → Nat → Int64} {mi2 : Nat → Int32} {fm2 : Nat → Nat → Int32} {p1 p2 p3 p4 : Int32} (hx : (r, v, f, g) = xs_weekday vx fx gx p1 p2 p3 p4) (hm : (r2, mi2, fm2) = ms_weekday mi fm p1 p2 p3 p4) : REL v f g mi2 fm2 := ⟨p3_weekday (mip_of hMI) h.1 hx hm, p4_weekday (mip_of hMI) h.1 h.2 hx⟩
theorem pr_later {vx : Nat → Int32} {fx : Nat → Nat → Int32} {gx : Nat → Nat → Int64} {mi : Nat → Int32} {fm : Nat → Nat → Int32} (hXI : XI vx fx) (hMI : MI mi fm) (h : REL vx fx gx mi fm) {r r2 : Int32} {v : Nat → Int32} {f : Nat → Nat → Int32} {g : Nat → Nat → Int64} {mi2 : Nat → Int32} {fm2 : Nat → Nat → Int32} {p1 : Int32} (hx : (r, v, f, g) = xs_later vx fx gx p1) (hm : (r2, mi2, fm2) = ms_later mi fm p1) : REL v f g mi2 fm2 ∧ r = r2 := ⟨⟨(r3_later (mip_of hMI) h.1 hx hm).1, p4_later h.2 hx⟩, (r3_later (mip_of hMI) h.1 hx hm).2⟩
theorem pr_both {vx : Nat → Int32} {fx : Nat → Nat → Int32} {gx : Nat → Nat → Int64} {mi : Nat → Int32} {fm : Nat → Nat → Int32} (hXI : XI vx fx) (hMI : MI mi fm) (h : REL vx fx gx mi fm) {r r2 : Int32} {v : Nat → Int32} {f : Nat → Nat → Int32} {g : Nat → Nat → Int64} {mi2 : Nat → Int32} {fm2 : Nat → Nat → Int32} {p1 p2 : Int32} (hx : (r, v, f, g) = xs_both vx fx gx p1 p2) (hm : (r2, mi2, fm2) = ms_both mi fm p1 p2) : REL v f g mi2 fm2 ∧ r = r2 := ⟨⟨(r3_both (mip_of hMI) h.1 hx hm).1, p4_both h.2 hx⟩, (r3_both (mip_of hMI) h.1 hx hm).2⟩
theorem pr_nearest {vx : Nat → Int32} {fx : Nat → Nat → Int32} {gx : Nat → Nat → Int64} {mi : Nat → Int32} {fm : Nat → Nat → Int32} (hXI : XI vx fx) (hMI : MI mi fm) (h : REL vx fx gx mi fm) {r r2 : Int32} {v : Nat → Int32} {f : Nat → Nat → Int32} {g : Nat → Nat → Int64} {mi2 : Nat → Int32} {fm2 : Nat → Nat → Int32} {p1 p2 : Int32} (hx : (r, v, f, g) = xs_nearest vx fx gx p1 p2) (hm : (r2, mi2, fm2) = ms_nearest mi fm p1 p2) : REL v f g mi2 fm2 := ⟨p3_nearest (mip_of hMI) h.1 hx hm, p4_nearest h.2 hx⟩
theorem pr_backed {vx : Nat → Int32} {fx : Nat → Nat → Int32} {gx : Nat → Nat → Int64} {mi : Nat → Int32} {fm : Nat → Nat → Int32} (hXI : XI vx fx) (hMI : MI mi fm) (h : REL vx fx gx mi fm) {r r2 : Int32} {v : Nat → Int32} {f : Nat → Nat → Int32} {g : Nat → Nat → Int64} {mi2 : Nat → Int32} {fm2 : Nat → Nat → Int32} {p1 p2 : Int32} (hx : (r, v, f, g) = xs_backed vx fx gx p1 p2) (hm : (r2, mi2, fm2) = ms_backed mi fm p1 p2) : REL v f g mi2 fm2 := ⟨p3_backed (mip_of hMI) h.1 hx hm, p4_backed h.2 hx⟩
theorem pr_tell {vx : Nat → Int32} {fx : Nat → Nat → Int32} {gx : Nat → Nat → Int64} {mi : Nat → Int32} {fm : Nat → Nat → Int32} (hXI : XI vx fx) (hMI : MI mi fm) (h : REL vx fx gx mi fm) {r r2 : Int32} {v : Nat → Int32} {f : Nat → Nat → Int32} {g : Nat → Nat → Int64} {mi2 : Nat → Int32} {fm2 : Nat → Nat → Int32} {p1 : Int32} (hx : (r, v, f, g) = xs_tell vx fx gx p1) (hm : (r2, mi2, fm2) = ms_tell mi fm p1) : REL v f g mi2 fm2 ∧ r = r2 := ⟨⟨(r3_tell (mip_of hMI) h.1 hx hm).1, p4_tell h.2 hx⟩, (r3_tell (mip_of hMI) h.1 hx hm).2⟩
theorem pr_octet {vx : Nat → Int32} {fx : Nat → Nat → Int32} {gx : Nat → Nat → Int64} {mi : Nat → Int32} {fm : Nat → Nat → Int32} (hXI : XI vx fx) (hMI : MI mi fm) (h : REL vx fx gx mi fm) {r r2 : Int32} {v : Nat → Int32} {f : Nat → Nat → Int32} {g : Nat → Nat → Int64} {mi2 : Nat → Int32} {fm2 : Nat → Nat → Int32} {p1 : Int32} (hx : (r, v, f, g) = xs_octet vx fx gx p1) (hm : (r2, mi2, fm2) = ms_octet mi fm p1) : REL v f g mi2 fm2 ∧ r = r2 := ⟨⟨(r3_octet h.1 hXI.1 hx hm).1, p4_octet h.2 hx⟩, (r3_octet h.1 hXI.1 hx hm).2⟩
theorem pr_reports {vx : Nat → Int32} {fx : Nat → Nat → Int32} {gx : Nat → Nat → Int64} {mi : Nat → Int32} {fm : Nat → Nat → Int32} (hXI : XI vx fx) (hMI : MI mi fm) (h : REL vx fx gx mi fm) {r r2 : Int32} {v : Nat → Int32} {f : Nat → Nat → Int32} {g : Nat → Nat → Int64} {mi2 : Nat → Int32} {fm2 : Nat → Nat → Int32} {p1 p2 p3 p4 p5 : Int32} (hx : (r, v, f, g) = xs_reports vx fx gx p1 p2 p3 p4 p5) (hm : (r2, mi2, fm2) = ms_reports mi fm p1 p2 p3 p4 p5) : REL v f g mi2 fm2 ∧ r = r2 := ⟨⟨(r3_reports h.1 hx hm).1, p4_reports h.2 hx⟩, (r3_reports h.1 hx hm).2⟩
theorem pr_strikes {vx : Nat → Int32} {fx : Nat → Nat → Int32} {gx : Nat → Nat → Int64} {mi : Nat → Int32} {fm : Nat → Nat → Int32} (hXI : XI vx fx) (hMI : MI mi fm) (h : REL vx fx gx mi fm) {r r2 : Int32} {v : Nat → Int32} {f : Nat → Nat → Int32} {g : Nat → Nat → Int64} {mi2 : Nat → Int32} {fm2 : Nat → Nat → Int32} {p1 : Int32} (hx : (r, v, f, g) = xs_strikes vx fx gx p1) (hm : (r2, mi2, fm2) = ms_strikes mi fm p1) : REL v f g mi2 fm2 ∧ r = r2 := ⟨⟨(r3_strikes h.1 hx hm).1, p4_strikes h.2 hx⟩, (r3_strikes h.1 hx hm).2⟩
theorem pr_trusts {vx : Nat → Int32} {fx : Nat → Nat → Int32} {gx : Nat → Nat → Int64} {mi : Nat → Int32} {fm : Nat → Nat → Int32} (hXI : XI vx fx) (hMI : MI mi fm) (h : REL vx fx gx mi fm) {r r2 : Int32} {v : Nat → Int32} {f : Nat → Nat → Int32} {g : Nat → Nat → Int64} {mi2 : Nat → Int32} {fm2 : Nat → Nat → Int32} {p1 p2 : Int32} (hx : (r, v, f, g) = xs_trusts vx fx gx p1 p2) (hm : (r2, mi2, fm2) = ms_trusts mi fm p1 p2) : REL v f g mi2 fm2 ∧ r = r2 := ⟨⟨(r3_trusts h.1 hx hm).1, p4_trusts h.2 hx⟩, (r3_trusts h.1 hx hm).2⟩
theorem pr_moon {vx : Nat → Int32} {fx : Nat → Nat → Int32} {gx : Nat → Nat → Int64} {mi : Nat → Int32} {fm : Nat → Nat → Int32} (hXI : XI vx fx) (hMI : MI mi fm) (h : REL vx fx gx mi fm) {r r2 : Int32} {v : Nat → Int32} {f : Nat → Nat → Int32} {g : Nat → Nat → Int64} {mi2 : Nat → Int32} {fm2 : Nat → Nat → Int32} {p1 p2 : Int32} (hx : (r, v, f, g) = xs_moon vx fx gx p1 p2) (hm : (r2, mi2, fm2) = ms_moon mi fm p1 p2) : REL v f g mi2 fm2 ∧ r = r2 := ⟨⟨(r3_moon h.1 hx hm).1, p4_moon h.2 hx⟩, (r3_moon h.1 hx hm).2⟩
theorem pr_runs {vx : Nat → Int32} {fx : Nat → Nat → Int32} {gx : Nat → Nat → Int64} {mi : Nat → Int32} {fm : Nat → Nat → Int32} (hXI : XI vx fx) (hMI : MI mi fm) (h : REL vx fx gx mi fm) {r r2 : Int32} {v : Nat → Int32} {f : Nat → Nat → Int32} {g : Nat → Nat → Int64} {mi2 : Nat → Int32} {fm2 : Nat → Nat → Int32} {p1 p2 : Int32} (hx : (r, v, f, g) = xs_runs vx fx gx p1 p2) (hm : (r2, mi2, fm2) = ms_runs mi fm p1 p2) : REL v f g mi2 fm2 ∧ r = r2 := ⟨⟨(r3_runs (mip_of hMI) h.1 hx hm).1, p4_runs h.2 hx⟩, (r3_runs (mip_of hMI) h.1 hx hm).2⟩
def VX0 : Nat → Int32 := (fun n => ([0, 0, (-1), 0, 0, 0, (-1), 0, 0, 0, 0, 0, 0, 0, 0, 0, 0, 0, 0, 0, 0, 0, 0, 0, 0, 0, 0, 0, 0, 0, 0, 0, 0, 0, 0, 0, 0, 0, 0, 0, 0, 0, 0, 0, 0, 0, 0, 0, 0, 0, 0, 0, 0, 0, 0, 0, 0, 0, 0, 0, 0] : List Int32).getD n 0)
def MI0 : Nat → Int32 := (fun n => ([0, 0, 0, 0, 0, 0, 0, 0, 0, 0, 0, 0, 0, 0, 0, 0, 0, 0, 0, 0, 0, 0, 0, 0, 0, 0, 0, 0, (-1), 0, 0, 0, 0, 0, 0, 0, 0, 0, 0, 0, 0, 0, (-1), (-1), (-1), (-1), 0, 0, 0, 0, 0, 0, 0, 0, 0, 0, 0] : List Int32).getD n 0)
theorem rel_start {vx : Nat → Int32} {fx : Nat → Nat → Int32} {gx : Nat → Nat → Int64} {mi : Nat → Int32} {fm : Nat → Nat → Int32} (hx : vx = VX0 ∧ fx = (fun _ _ => 0) ∧ gx = (fun _ _ => 0)) (hm : mi = MI0 ∧ fm = (fun _ _ => 0)) : REL vx fx gx mi fm := by
  obtain ⟨rfl, rfl, rfl⟩ := hx
  obtain ⟨rfl, rfl⟩ := hm
  refine ⟨⟨⟨⟨⟨0, by omega, rfl, rfl, fun j hj => absurd hj (by omega)⟩, rfl, rfl⟩, ⟨⟨rfl, rfl, rfl, rfl, rfl, rfl, rfl⟩, ⟨0, 0, 0, by omega, by omega, by omega, rfl, rfl, rfl, rfl, rfl, rfl, fun p hp => absurd hp (by omega), fun j hj => absurd hj (by omega), fun j hj => absurd hj (by omega), fun j hj => absurd hj (by omega), fun _ => ⟨rfl, rfl⟩, fun p hp => absurd hp (by omega), fun p q hp => absurd hp (by omega), fun j hj => absurd hj (by omega), fun j hj => absurd hj (by omega)⟩, by decide, by decide⟩, fun q => absurd rfl q, fun _ => rfl⟩, ⟨rfl, rfl⟩, ⟨rfl, rfl, rfl⟩, ⟨fun _ _ _ => rfl, fun _ _ _ => rfl⟩, ⟨fun _ _ _ => rfl, Or.inl rfl⟩, ⟨rfl, fun j hj => absurd hj (by rw [show VX0 0 = 0 from rfl, z32]; omega)⟩, Or.inl rfl⟩, Or.inl rfl⟩
theorem gy_PL {D : va_G} {cl : List vw_C} {X M : va_W} {H : Heap} (h : va_P D cl (X ++ M) H) : va_P D cl X H := fun k q hk => h k q (by rw [List.getElem?_append_left (List.getElem?_eq_some_iff.mp hk).1]; exact hk)
theorem gy_PR {D : va_G} {cl : List vw_C} {X M : va_W} {H : Heap} (h : va_P D cl (X ++ M) H) : va_P D cl M H := fun k q hk => h (X.length + k) q (by rw [List.getElem?_append_right (by omega), Nat.add_sub_cancel_left]; exact hk)
theorem gy_DL {A : Nat → Prop} {X M : va_W} (h : va_D A (X ++ M)) : va_D A X := ⟨fun i j p q hi hj e => h.1 i j p q (by rw [List.getElem?_append_left (List.getElem?_eq_some_iff.mp hi).1]; exact hi) (by rw [List.getElem?_append_left (List.getElem?_eq_some_iff.mp hj).1]; exact hj) e, fun k q hk => h.2 k q (by rw [List.getElem?_append_left (List.getElem?_eq_some_iff.mp hk).1]; exact hk)⟩
theorem gy_DR {A : Nat → Prop} {X M : va_W} (h : va_D A (X ++ M)) : va_D A M := ⟨fun i j p q hi hj e => by
    have h1 := h.1 (X.length + i) (X.length + j) p q (by rw [List.getElem?_append_right (by omega), Nat.add_sub_cancel_left]; exact hi) (by rw [List.getElem?_append_right (by omega), Nat.add_sub_cancel_left]; exact hj) e
    omega, fun k q hk => h.2 (X.length + k) q (by rw [List.getElem?_append_right (by omega), Nat.add_sub_cancel_left]; exact hk)⟩
theorem gy_ap {A : Nat → Prop} {X M : va_W} (h : va_D A (X ++ M)) {i j : Nat} {p q : Nat × va_E} (hi : X[i]? = some p) (hj : M[j]? = some q) : p.1 ≠ q.1 := by
  intro e
  have h1 := h.1 i (X.length + j) p q (by rw [List.getElem?_append_left (List.getElem?_eq_some_iff.mp hi).1]; exact hi) (by rw [List.getElem?_append_right (by omega), Nat.add_sub_cancel_left]; exact hj) e
  have h2 := (List.getElem?_eq_some_iff.mp hi).1
  omega
theorem gy_cut {A : Nat → Prop} {D : va_G} {cl : List vw_C} {X M : va_W} {H0 H : Heap} {locs : List Loc} (hP : va_P D cl (X ++ M) H) (hD : va_D A (X ++ M)) (hS : va_S A H0 H locs) (hA : ∀ q, H0.size ≤ q → A q) : va_P D cl M H ∧ va_D A M ∧ ∀ q, va_A M H.size q → A q := ⟨gy_PR hP, gy_DR hD, gz_fullF (gy_DR hD) hS hA⟩
theorem gy_join {A : Nat → Prop} {D : va_G} {cl : List vw_C} {X M M2 : va_W} {H H1 : Heap} (hP : va_P D cl (X ++ M) H) (hD : va_D A (X ++ M)) (hk : ∀ q : Nat, q < H.size → ¬ va_A M H.size q → H1[q]? = H[q]?) (hF : ∀ q, va_A M H.size q → A q) (hP1 : va_P D cl M2 H1) (hD1 : va_D (va_A M H.size) M2) : va_P D cl (X ++ M2) H1 ∧ va_D A (X ++ M2) := by
  have out : ∀ (k : Nat) (q : Nat × va_E), X[k]? = some q → q.1 < H.size ∧ ¬ va_A M H.size q.1 := by
    intro k q hq
    have hl := (gy_PL hP k q hq).lt
    refine ⟨hl, ?_⟩
    rintro (⟨j, e, h⟩ | h)
    · exact gy_ap hD hq h rfl
    · omega
  refine ⟨va_P.app (fun k q hq => ?_) hP1, va_D.app (gy_DL hD) (hD1.weaken (fun k q _ h => hF q.1 h)) (fun i j x y hx hy hxy => ?_)⟩
  · obtain ⟨g1, g2⟩ := out k q hq
    exact (gy_PL hP k q hq).kept (hk q.1 g1 g2)
  · exact (out i x hx).2 (by rw [hxy]; exact hD1.2 j y hy)
theorem gz_Pq {D : va_G} {cl : List vw_C} {ws : va_W} {H : Heap} {a n : Nat} {c : ClassId} {f g : Nat → Option Nat} (hP : va_P D cl ws H) (k : Nat) (hk : ws[k]? = some (a, .inl (c, n, .inr (.inr (.inr (.inr f)))))) (h : ∀ i, i < n → f i = g i) : va_P D cl (ws.set k (a, .inl (c, n, .inr (.inr (.inr (.inr g)))))) H := by
  intro j q hj
  by_cases hjk : j = k
  · subst hjk
    rw [List.getElem?_set_self (List.getElem?_eq_some_iff.mp hk).1] at hj
    cases hj
    have h1 : H[a]? = some (vp_cell c (n, .inr (.inr (.inr (.inr f))))) := hP j _ hk
    show H[a]? = some (vp_cell c (n, .inr (.inr (.inr (.inr g)))))
    rw [h1, vp_cell_q, vp_cell_q]
    unfold arrV
    congr 3
    funext x
    show va_rf (f x.val) = va_rf (g x.val)
    rw [h x.val x.isLt]
  · rw [List.getElem?_set_ne (Ne.symm hjk)] at hj
    exact hP j q hj
theorem gz_Dq {A : Nat → Prop} {ws : va_W} {a n : Nat} {c : ClassId} {f : Nat → Option Nat} (hD : va_D A ws) (k : Nat) {g : Nat → Option Nat} (hk : ws[k]? = some (a, .inl (c, n, .inr (.inr (.inr (.inr f)))))) : va_D A (ws.set k (a, .inl (c, n, .inr (.inr (.inr (.inr g)))))) := hD.set hk
theorem dfX3 : ∀ j, j < 5 → defaultValue (tyX3 j) = vp_V [.int 0, .int 0, .int 0, .null, .null] j := by decide +kernel
theorem dfX5 : ∀ j, j < 2 → defaultValue (tyX5 j) = vp_V [.int 0, .int 0] j := by decide +kernel
theorem dfX7 : ∀ j, j < 6 → defaultValue (tyX7 j) = vp_V [.int 0, .int 0, .int 0, .int 0, .int 0, .int 0] j := by decide +kernel
theorem dfX2 : ∀ j, j < 4 → defaultValue (tyX2 j) = vp_V [.int 0, .int 0, .int 0, .int 0] j := by decide +kernel
theorem dfX10 : ∀ j, j < 2 → defaultValue (tyX10 j) = vp_V [.null, .int 0] j := by decide +kernel
theorem dfX0 : ∀ j, j < 13 → defaultValue (tyX0 j) = vp_V [.int 0, .int 0, .int 0, .int 0, .int 0, .int 0, .int 0, .int 0, .int 0, .int 0, .null, .null, .null] j := by decide +kernel
theorem dfX6 : ∀ j, j < 7 → defaultValue (tyX6 j) = vp_V [.null, .null, .int 0, .int 0, .int 0, .int 0, .int 0] j := by decide +kernel
theorem dfX1 : ∀ j, j < 7 → defaultValue (tyX1 j) = vp_V [.null, .null, .null, .null, .null, .int 0, .int 0] j := by decide +kernel
theorem dfX9 : ∀ j, j < 6 → defaultValue (tyX9 j) = vp_V [.null, .null, .null, .int 0, .int 0, .int 0] j := by decide +kernel
theorem dfX8 : ∀ j, j < 5 → defaultValue (tyX8 j) = vp_V [.null, .null, .int 0, .int 0, .int 0] j := by decide +kernel
theorem dfX4 : ∀ j, j < 3 → defaultValue (tyX4 j) = vp_V [.null, .null, .int 0] j := by decide +kernel
theorem dfX11 : ∀ j, j < 16 → defaultValue (tyX11 j) = vp_V [.null, .null, .null, .null, .null, .null, .null, .null, .null, .null, .null, .int 0, .int 0, .int 0, .int 0, .int 0] j := by decide +kernel
theorem dfX12 : ∀ j, j < 57 → defaultValue (tyX12 j) = vp_V [.int 0, .int 0, .int 0, .int 0, .int 0, .int 0, .int 0, .int 0, .null, .null, .int 0, .null, .null, .null, .null, .null, .null, .int 0, .null, .null, .null, .null, .null, .int 0, .int 0, .null, .int 0, .int 0, .int 0, .int 0, .int 0, .int 0, .int 0, .int 0, .null, .null, .null, .int 0, .null, .null, .null, .int 0, .int 0, .int 0, .int 0, .int 0, .null, .int 0, .int 0, .int 0, .int 0, .int 0, .null, .null, .int 0, .null, .int 0] j := by decide +kernel
noncomputable def lsX5_init : List (Nat × Instr × Nat) := [(0, .aload_n 0, 1), (1, .invokespecial 1, 3), (4, .return_, 1)]
theorem dkX5_init : dkAll cX5_init lsX5_init = true := dk_fast (by decide +kernel)
set_option maxHeartbeats 4000000 in
set_option maxRecDepth 100000 in
theorem fX5_init (l : Launch) (dC : Nat → ClassId) (dI : Nat → Nat → Nat) (h0 : Nat) : Met l yX5_init (.code yX5_init cX5_init 1 none :: wsGA) ({ frames := 1, cells := 0, slots := 0, locals := 12 }) (va_Pc [.ref h0] (fun U => va_P (dC, dI) vwCl [] U.heap ∧ va_K (dC, dI) vwCl [] U)) (va_Qv (fun (u : Unit) => True) (fun _ _ => True) (fun _ => False)) 0 0 (fun _ => False) := by
  refine Met.ofW (cc := cX5_init) (maxL := 1) (ret := none) (by decide) rfl ?_
  intro p e s m args below meth c s₁ B hml hv
  obtain ⟨rfl, hP, hK⟩ := hv
  have hx := B.exec
  have hb := B.bytes
  have hr := B.returns
  have hts := atoms_spec (ws := (.code yX5_init cX5_init 1 none :: wsGA)) B.pre
  have hown : s.vm.findClass RX5 = some m.cls := findClass_of_methodNamed B.named
  have hlocks := B.notSynchronized
  have hin : meth.name = "<init>" := (name_of_methodNamed B.named B.method).1
  have hS : va_S (fun _ => False) s.heap s.heap [] := va_S.rf
  have hl := lv_entry ([.ref h0]) (n := 1) (Nat.le_of_ble_eq_true rfl)
  rw [lg_entry_eq]
  generalize (lg_sl ([.ref h0]) ++ List.replicate (1 - (lg_sl ([.ref h0])).length) Slot.unset).toArray = ls at hl ⊢
  have hl : lv_has ls 1 [(0, .ref h0)] := hl
  refine lv_aload_n hx hb (dk_at dkX5_init 0 rfl) rfl (lv_at hl 0 rfl) ?_
  refine W.objInit hx hb hown (hts _ (List.mem_cons_of_mem _ mGA_83)) (hts _ (List.mem_cons_of_mem _ mGA_5)) (hts _ (List.mem_cons_of_mem _ mGA_6)) rfl (by rw [hml]; exact hl.1) rfl (dk_at dkX5_init 1 rfl) (Nat.le_of_ble_eq_true rfl) (Nat.le_of_ble_eq_true rfl) ?_
  refine W.eq (g2 := F0 m 4 ls []) rfl ?_
  exact W.vret hx hb hr (fun t ht hW => ⟨⟨(), rfl, trivial, trivial⟩, hS.F ht⟩) hS.2.2 (dk_at dkX5_init 2 rfl)
noncomputable def lsX7_init : List (Nat × Instr × Nat) := [(0, .aload_n 0, 1), (1, .invokespecial 1, 3), (4, .return_, 1)]
theorem dkX7_init : dkAll cX7_init lsX7_init = true := dk_fast (by decide +kernel)
set_option maxHeartbeats 4000000 in
set_option maxRecDepth 100000 in
theorem fX7_init (l : Launch) (dC : Nat → ClassId) (dI : Nat → Nat → Nat) (h0 : Nat) : Met l yX7_init (.code yX7_init cX7_init 1 none :: wsGA) ({ frames := 1, cells := 0, slots := 0, locals := 12 }) (va_Pc [.ref h0] (fun U => va_P (dC, dI) vwCl [] U.heap ∧ va_K (dC, dI) vwCl [] U)) (va_Qv (fun (u : Unit) => True) (fun _ _ => True) (fun _ => False)) 0 0 (fun _ => False) := by
  refine Met.ofW (cc := cX7_init) (maxL := 1) (ret := none) (by decide) rfl ?_
  intro p e s m args below meth c s₁ B hml hv
  obtain ⟨rfl, hP, hK⟩ := hv
  have hx := B.exec
  have hb := B.bytes
  have hr := B.returns
  have hts := atoms_spec (ws := (.code yX7_init cX7_init 1 none :: wsGA)) B.pre
  have hown : s.vm.findClass RX7 = some m.cls := findClass_of_methodNamed B.named
  have hlocks := B.notSynchronized
  have hin : meth.name = "<init>" := (name_of_methodNamed B.named B.method).1
  have hS : va_S (fun _ => False) s.heap s.heap [] := va_S.rf
  have hl := lv_entry ([.ref h0]) (n := 1) (Nat.le_of_ble_eq_true rfl)
  rw [lg_entry_eq]
  generalize (lg_sl ([.ref h0]) ++ List.replicate (1 - (lg_sl ([.ref h0])).length) Slot.unset).toArray = ls at hl ⊢
  have hl : lv_has ls 1 [(0, .ref h0)] := hl
  refine lv_aload_n hx hb (dk_at dkX7_init 0 rfl) rfl (lv_at hl 0 rfl) ?_
  refine W.objInit hx hb hown (hts _ (List.mem_cons_of_mem _ mGA_86)) (hts _ (List.mem_cons_of_mem _ mGA_5)) (hts _ (List.mem_cons_of_mem _ mGA_6)) rfl (by rw [hml]; exact hl.1) rfl (dk_at dkX7_init 1 rfl) (Nat.le_of_ble_eq_true rfl) (Nat.le_of_ble_eq_true rfl) ?_
  refine W.eq (g2 := F0 m 4 ls []) rfl ?_
  exact W.vret hx hb hr (fun t ht hW => ⟨⟨(), rfl, trivial, trivial⟩, hS.F ht⟩) hS.2.2 (dk_at dkX7_init 2 rfl)
noncomputable def lsX2_init : List (Nat × Instr × Nat) := [(0, .aload_n 0, 1), (1, .invokespecial 1, 3), (4, .return_, 1)]
theorem dkX2_init : dkAll cX2_init lsX2_init = true := dk_fast (by decide +kernel)
set_option maxHeartbeats 4000000 in
set_option maxRecDepth 100000 in
theorem fX2_init (l : Launch) (dC : Nat → ClassId) (dI : Nat → Nat → Nat) (h0 : Nat) : Met l yX2_init (.code yX2_init cX2_init 1 none :: wsGA) ({ frames := 1, cells := 0, slots := 0, locals := 12 }) (va_Pc [.ref h0] (fun U => va_P (dC, dI) vwCl [] U.heap ∧ va_K (dC, dI) vwCl [] U)) (va_Qv (fun (u : Unit) => True) (fun _ _ => True) (fun _ => False)) 0 0 (fun _ => False) := by
  refine Met.ofW (cc := cX2_init) (maxL := 1) (ret := none) (by decide) rfl ?_
  intro p e s m args below meth c s₁ B hml hv
  obtain ⟨rfl, hP, hK⟩ := hv
  have hx := B.exec
  have hb := B.bytes
  have hr := B.returns
  have hts := atoms_spec (ws := (.code yX2_init cX2_init 1 none :: wsGA)) B.pre
  have hown : s.vm.findClass RX2 = some m.cls := findClass_of_methodNamed B.named
  have hlocks := B.notSynchronized
  have hin : meth.name = "<init>" := (name_of_methodNamed B.named B.method).1
  have hS : va_S (fun _ => False) s.heap s.heap [] := va_S.rf
  have hl := lv_entry ([.ref h0]) (n := 1) (Nat.le_of_ble_eq_true rfl)
  rw [lg_entry_eq]
  generalize (lg_sl ([.ref h0]) ++ List.replicate (1 - (lg_sl ([.ref h0])).length) Slot.unset).toArray = ls at hl ⊢
  have hl : lv_has ls 1 [(0, .ref h0)] := hl
  refine lv_aload_n hx hb (dk_at dkX2_init 0 rfl) rfl (lv_at hl 0 rfl) ?_
  refine W.objInit hx hb hown (hts _ (List.mem_cons_of_mem _ mGA_89)) (hts _ (List.mem_cons_of_mem _ mGA_5)) (hts _ (List.mem_cons_of_mem _ mGA_6)) rfl (by rw [hml]; exact hl.1) rfl (dk_at dkX2_init 1 rfl) (Nat.le_of_ble_eq_true rfl) (Nat.le_of_ble_eq_true rfl) ?_
  refine W.eq (g2 := F0 m 4 ls []) rfl ?_
  exact W.vret hx hb hr (fun t ht hW => ⟨⟨(), rfl, trivial, trivial⟩, hS.F ht⟩) hS.2.2 (dk_at dkX2_init 2 rfl)
noncomputable def lsX3_init : List (Nat × Instr × Nat) := [(0, .aload_n 0, 1), (1, .invokespecial 3, 3), (4, .aload_n 0, 1), (5, .bipush 25, 2), (7, .newarray .int, 2), (9, .putfield 9, 3), (12, .aload_n 0, 1), (13, .sipush 275, 3), (16, .newarray .int, 2), (18, .putfield 15, 3), (21, .return_, 1)]
theorem dkX3_init : dkAll cX3_init lsX3_init = true := by decide +kernel
set_option maxHeartbeats 4000000 in
set_option maxRecDepth 100000 in
theorem fX3_init (l : Launch) (dC : Nat → ClassId) (dI : Nat → Nat → Nat) (sz : Nat) (h0 : Nat) : Met l yX3_init (.code yX3_init cX3_init 1 none :: wsGA) ({ frames := 1, cells := 2, slots := 300, locals := 12 }) (va_Pc [.ref h0] (fun U => U.heap.size = sz ∧ va_P (dC, dI) vwCl [(h0, .inr (3, [.int 0, .int 0, .int 0, .null, .null]))] U.heap ∧ va_K (dC, dI) vwCl [] U ∧ va_D (fun _ => True) [(h0, .inr (3, [.int 0, .int 0, .int 0, .null, .null]))])) (va_Qv (fun (u : Unit) => True) (fun _ t => ∃ (q : Nat → Nat) (kk : Nat → ClassId), va_P (dC, dI) vwCl [(h0, .inr (3, [.int 0, .int 0, .int 0, .ref (q 0), .ref (q 1)])), ((q 0), .inl ((kk 0), 25, .inl (fun _ => 0))), ((q 1), .inl ((kk 1), 275, .inl (fun _ => 0)))] t.heap ∧ va_K (dC, dI) vwCl [((kk 0), .int), ((kk 1), .int)] t ∧ va_D (va_A [(h0, .inr (3, [.int 0, .int 0, .int 0, .null, .null]))] sz) [(h0, .inr (3, [.int 0, .int 0, .int 0, .ref (q 0), .ref (q 1)])), ((q 0), .inl ((kk 0), 25, .inl (fun _ => 0))), ((q 1), .inl ((kk 1), 275, .inl (fun _ => 0)))]) (va_A [(h0, .inr (3, [.int 0, .int 0, .int 0, .null, .null]))] sz)) 2 300 (va_A [(h0, .inr (3, [.int 0, .int 0, .int 0, .null, .null]))] sz) := by
  refine Met.ofW (cc := cX3_init) (maxL := 1) (ret := none) (by decide) rfl ?_
  intro p e s m args below meth c s₁ B hml hv
  obtain ⟨rfl, hsz, hP, hK, hD0⟩ := hv
  have hx := B.exec
  have hb := B.bytes
  have hr := B.returns
  have hts := atoms_spec (ws := (.code yX3_init cX3_init 1 none :: wsGA)) B.pre
  have hown : s.vm.findClass RX3 = some m.cls := findClass_of_methodNamed B.named
  have hlocks := B.notSynchronized
  have hin : meth.name = "<init>" := (name_of_methodNamed B.named B.method).1
  subst hsz
  have hD := hD0.self (sz := s.heap.size)
  generalize hAe : va_A [(h0, .inr (3, [.int 0, .int 0, .int 0, .null, .null]))] s.heap.size = A at hD ⊢
  have hA : ∀ q : Nat, s.heap.size ≤ q → A q := fun q h => by rw [← hAe]; exact Or.inr h
  have hS : va_S A s.heap s.heap [] := va_S.rf
  have hl := lv_entry ([.ref h0]) (n := 1) (Nat.le_of_ble_eq_true rfl)
  rw [lg_entry_eq]
  generalize (lg_sl ([.ref h0]) ++ List.replicate (1 - (lg_sl ([.ref h0])).length) Slot.unset).toArray = ls at hl ⊢
  have hl : lv_has ls 1 [(0, .ref h0)] := hl
  refine lv_aload_n hx hb (dk_at dkX3_init 0 rfl) rfl (lv_at hl 0 rfl) ?_
  refine W.objInit hx hb hown (hts _ (List.mem_cons_of_mem _ mGA_93)) (hts _ (List.mem_cons_of_mem _ mGA_5)) (hts _ (List.mem_cons_of_mem _ mGA_6)) rfl (by rw [hml]; exact hl.1) rfl (dk_at dkX3_init 1 rfl) (Nat.le_of_ble_eq_true rfl) (Nat.le_of_ble_eq_true rfl) ?_
  refine W.eq (g2 := F0 m 4 ls []) rfl ?_
  refine lv_aload_n hx hb (dk_at dkX3_init 2 rfl) rfl (lv_at hl 0 rfl) ?_
  refine lv_bipush (v := 25) hx hb (dk_at dkX3_init 3 rfl) (by decide) ?_
  refine va_newa (atype := .int) (ty := .int) (a0 := (25, .inl (fun _ => 0))) hx hb (hts _ (List.mem_cons_of_mem _ mGA_37)) rfl hK hP hD hS hA (fun _ => rfl) (by decide) (by decide) (Nat.le_of_ble_eq_true rfl) (Nat.le_of_ble_eq_true rfl) (Nat.le_of_ble_eq_true rfl) (dk_at dkX3_init 4 rfl) (fun q_1 k_2 H hK hP hD hS => ?_)
  obtain ⟨hP, hD⟩ := gz_both (w := [(h0, .inr (3, [.int 0, .int 0, .int 0, .null, .null])), (q_1, .inl (k_2, 25, .inl (fun _ => 0)))]) hP hD
  have hK : va_K (dC, dI) vwCl [(k_2, .int)] s := hK
  refine W.widen (k := 1) (n := 25) (Nat.le_of_ble_eq_true rfl) (Nat.le_of_ble_eq_true rfl) ?_
  refine va_putF (D := (dC, dI)) (ci := 3) (v := .ref q_1) (ty := .array .int) (C := RX3) (T := TX3) (N := 5) hx hb hts (fun w h => List.mem_cons_of_mem _ (jnGA_X3 w h)) tyX3 tyX3_ok nmX3 hown hK hP hD hS 0 rfl rfl 3 (by decide) (hts _ (List.mem_cons_of_mem _ mGA_94)) (fun _ h9 => h9) rfl hin rfl (by decide +kernel) rfl rfl (Nat.le_of_ble_eq_true rfl) (dk_at dkX3_init 5 rfl) (fun H locs hP hD hS => ?_)
  obtain ⟨hP, hD⟩ := gz_both (w := [(h0, .inr (3, [.int 0, .int 0, .int 0, .ref q_1, .null])), (q_1, .inl (k_2, 25, .inl (fun _ => 0)))]) hP hD
  refine lv_aload_n hx hb (dk_at dkX3_init 6 rfl) rfl (lv_at hl 0 rfl) ?_
  refine lv_sipush (v := 275) hx hb (dk_at dkX3_init 7 rfl) (by decide) ?_
  refine va_newa (atype := .int) (ty := .int) (a0 := (275, .inl (fun _ => 0))) hx hb (hts _ (List.mem_cons_of_mem _ mGA_37)) rfl hK hP hD hS hA (fun _ => rfl) (by decide) (by decide) (Nat.le_of_ble_eq_true rfl) (Nat.le_of_ble_eq_true rfl) (Nat.le_of_ble_eq_true rfl) (dk_at dkX3_init 8 rfl) (fun q_3 k_4 H hK hP hD hS => ?_)
  obtain ⟨hP, hD⟩ := gz_both (w := [(h0, .inr (3, [.int 0, .int 0, .int 0, .ref q_1, .null])), (q_1, .inl (k_2, 25, .inl (fun _ => 0))), (q_3, .inl (k_4, 275, .inl (fun _ => 0)))]) hP hD
  have hK : va_K (dC, dI) vwCl [(k_2, .int), (k_4, .int)] s := hK
  refine W.widen (k := 2) (n := 300) (Nat.le_of_ble_eq_true rfl) (Nat.le_of_ble_eq_true rfl) ?_
  refine va_putF (D := (dC, dI)) (ci := 3) (v := .ref q_3) (ty := .array .int) (C := RX3) (T := TX3) (N := 5) hx hb hts (fun w h => List.mem_cons_of_mem _ (jnGA_X3 w h)) tyX3 tyX3_ok nmX3 hown hK hP hD hS 0 rfl rfl 4 (by decide) (hts _ (List.mem_cons_of_mem _ mGA_95)) (fun _ h9 => h9) rfl hin rfl (by decide +kernel) rfl rfl (Nat.le_of_ble_eq_true rfl) (dk_at dkX3_init 9 rfl) (fun H locs hP hD hS => ?_)
  obtain ⟨hP, hD⟩ := gz_both (w := [(h0, .inr (3, [.int 0, .int 0, .int 0, .ref q_1, .ref q_3])), (q_1, .inl (k_2, 25, .inl (fun _ => 0))), (q_3, .inl (k_4, 275, .inl (fun _ => 0)))]) hP hD
  have hP9 := hP.sub (ws' := [(h0, .inr (3, [.int 0, .int 0, .int 0, .ref q_1, .ref q_3])), (q_1, .inl (k_2, 25, .inl (fun _ => 0))), (q_3, .inl (k_4, 275, .inl (fun _ => 0)))]) [0, 1, 2] rfl
  have hD9 := hD.sub (ws' := [(h0, .inr (3, [.int 0, .int 0, .int 0, .ref q_1, .ref q_3])), (q_1, .inl (k_2, 25, .inl (fun _ => 0))), (q_3, .inl (k_4, 275, .inl (fun _ => 0)))]) [0, 1, 2] (by decide +kernel) rfl
  have hK9 := hK.sub (tys' := [(k_2, .int), (k_4, .int)]) [0, 1] rfl
  exact W.vret hx hb hr (fun t ht hW => ⟨⟨(), rfl, trivial, (fun n => [q_1, q_3].getD n 0), (fun n => [k_2, k_4].getD n k_2), by rw [ht]; exact hP9, va_K.moved hW.alike hK9, hD9⟩, hS.F ht⟩) hS.2.2 (dk_at dkX3_init 10 rfl)
noncomputable def lsX9_init : List (Nat × Instr × Nat) := [(0, .aload_n 0, 1), (1, .invokespecial 3, 3), (4, .aload_n 0, 1), (5, .sipush 3575, 3), (8, .newarray .int, 2), (10, .putfield 9, 3), (13, .aload_n 0, 1), (14, .sipush 3575, 3), (17, .newarray .int, 2), (19, .putfield 15, 3), (22, .aload_n 0, 1), (23, .sipush 325, 3), (26, .newarray .int, 2), (28, .putfield 18, 3), (31, .return_, 1)]
theorem dkX9_init : dkAll cX9_init lsX9_init = true := by decide +kernel
set_option maxHeartbeats 4000000 in
set_option maxRecDepth 100000 in
theorem fX9_init (l : Launch) (dC : Nat → ClassId) (dI : Nat → Nat → Nat) (sz : Nat) (h0 : Nat) : Met l yX9_init (.code yX9_init cX9_init 1 none :: wsGA) ({ frames := 1, cells := 3, slots := 7475, locals := 12 }) (va_Pc [.ref h0] (fun U => U.heap.size = sz ∧ va_P (dC, dI) vwCl [(h0, .inr (9, [.null, .null, .null, .int 0, .int 0, .int 0]))] U.heap ∧ va_K (dC, dI) vwCl [] U ∧ va_D (fun _ => True) [(h0, .inr (9, [.null, .null, .null, .int 0, .int 0, .int 0]))])) (va_Qv (fun (u : Unit) => True) (fun _ t => ∃ (q : Nat → Nat) (kk : Nat → ClassId), va_P (dC, dI) vwCl [(h0, .inr (9, [.ref (q 0), .ref (q 1), .ref (q 2), .int 0, .int 0, .int 0])), ((q 0), .inl ((kk 0), 3575, .inl (fun _ => 0))), ((q 1), .inl ((kk 1), 3575, .inl (fun _ => 0))), ((q 2), .inl ((kk 2), 325, .inl (fun _ => 0)))] t.heap ∧ va_K (dC, dI) vwCl [((kk 0), .int), ((kk 1), .int), ((kk 2), .int)] t ∧ va_D (va_A [(h0, .inr (9, [.null, .null, .null, .int 0, .int 0, .int 0]))] sz) [(h0, .inr (9, [.ref (q 0), .ref (q 1), .ref (q 2), .int 0, .int 0, .int 0])), ((q 0), .inl ((kk 0), 3575, .inl (fun _ => 0))), ((q 1), .inl ((kk 1), 3575, .inl (fun _ => 0))), ((q 2), .inl ((kk 2), 325, .inl (fun _ => 0)))]) (va_A [(h0, .inr (9, [.null, .null, .null, .int 0, .int 0, .int 0]))] sz)) 3 7475 (va_A [(h0, .inr (9, [.null, .null, .null, .int 0, .int 0, .int 0]))] sz) := by
  refine Met.ofW (cc := cX9_init) (maxL := 1) (ret := none) (by decide) rfl ?_
  intro p e s m args below meth c s₁ B hml hv
  obtain ⟨rfl, hsz, hP, hK, hD0⟩ := hv
  have hx := B.exec
  have hb := B.bytes
  have hr := B.returns
  have hts := atoms_spec (ws := (.code yX9_init cX9_init 1 none :: wsGA)) B.pre
  have hown : s.vm.findClass RX9 = some m.cls := findClass_of_methodNamed B.named
  have hlocks := B.notSynchronized
  have hin : meth.name = "<init>" := (name_of_methodNamed B.named B.method).1
  subst hsz
  have hD := hD0.self (sz := s.heap.size)
  generalize hAe : va_A [(h0, .inr (9, [.null, .null, .null, .int 0, .int 0, .int 0]))] s.heap.size = A at hD ⊢
  have hA : ∀ q : Nat, s.heap.size ≤ q → A q := fun q h => by rw [← hAe]; exact Or.inr h
  have hS : va_S A s.heap s.heap [] := va_S.rf
  have hl := lv_entry ([.ref h0]) (n := 1) (Nat.le_of_ble_eq_true rfl)
  rw [lg_entry_eq]
  generalize (lg_sl ([.ref h0]) ++ List.replicate (1 - (lg_sl ([.ref h0])).length) Slot.unset).toArray = ls at hl ⊢
  have hl : lv_has ls 1 [(0, .ref h0)] := hl
  refine lv_aload_n hx hb (dk_at dkX9_init 0 rfl) rfl (lv_at hl 0 rfl) ?_
  refine W.objInit hx hb hown (hts _ (List.mem_cons_of_mem _ mGA_110)) (hts _ (List.mem_cons_of_mem _ mGA_5)) (hts _ (List.mem_cons_of_mem _ mGA_6)) rfl (by rw [hml]; exact hl.1) rfl (dk_at dkX9_init 1 rfl) (Nat.le_of_ble_eq_true rfl) (Nat.le_of_ble_eq_true rfl) ?_
  refine W.eq (g2 := F0 m 4 ls []) rfl ?_
  refine lv_aload_n hx hb (dk_at dkX9_init 2 rfl) rfl (lv_at hl 0 rfl) ?_
  refine lv_sipush (v := 3575) hx hb (dk_at dkX9_init 3 rfl) (by decide) ?_
  refine va_newa (atype := .int) (ty := .int) (a0 := (3575, .inl (fun _ => 0))) hx hb (hts _ (List.mem_cons_of_mem _ mGA_37)) rfl hK hP hD hS hA (fun _ => rfl) (by decide) (by decide) (Nat.le_of_ble_eq_true rfl) (Nat.le_of_ble_eq_true rfl) (Nat.le_of_ble_eq_true rfl) (dk_at dkX9_init 4 rfl) (fun q_1 k_2 H hK hP hD hS => ?_)
  obtain ⟨hP, hD⟩ := gz_both (w := [(h0, .inr (9, [.null, .null, .null, .int 0, .int 0, .int 0])), (q_1, .inl (k_2, 3575, .inl (fun _ => 0)))]) hP hD
  have hK : va_K (dC, dI) vwCl [(k_2, .int)] s := hK
  refine W.widen (k := 1) (n := 3575) (Nat.le_of_ble_eq_true rfl) (Nat.le_of_ble_eq_true rfl) ?_
  refine va_putF (D := (dC, dI)) (ci := 9) (v := .ref q_1) (ty := .array .int) (C := RX9) (T := TX9) (N := 6) hx hb hts (fun w h => List.mem_cons_of_mem _ (jnGA_X9 w h)) tyX9 tyX9_ok nmX9 hown hK hP hD hS 0 rfl rfl 0 (by decide) (hts _ (List.mem_cons_of_mem _ mGA_111)) (fun _ h9 => h9) rfl hin rfl (by decide +kernel) rfl rfl (Nat.le_of_ble_eq_true rfl) (dk_at dkX9_init 5 rfl) (fun H locs hP hD hS => ?_)
  obtain ⟨hP, hD⟩ := gz_both (w := [(h0, .inr (9, [.ref q_1, .null, .null, .int 0, .int 0, .int 0])), (q_1, .inl (k_2, 3575, .inl (fun _ => 0)))]) hP hD
  refine lv_aload_n hx hb (dk_at dkX9_init 6 rfl) rfl (lv_at hl 0 rfl) ?_
  refine lv_sipush (v := 3575) hx hb (dk_at dkX9_init 7 rfl) (by decide) ?_
  refine va_newa (atype := .int) (ty := .int) (a0 := (3575, .inl (fun _ => 0))) hx hb (hts _ (List.mem_cons_of_mem _ mGA_37)) rfl hK hP hD hS hA (fun _ => rfl) (by decide) (by decide) (Nat.le_of_ble_eq_true rfl) (Nat.le_of_ble_eq_true rfl) (Nat.le_of_ble_eq_true rfl) (dk_at dkX9_init 8 rfl) (fun q_3 k_4 H hK hP hD hS => ?_)
  obtain ⟨hP, hD⟩ := gz_both (w := [(h0, .inr (9, [.ref q_1, .null, .null, .int 0, .int 0, .int 0])), (q_1, .inl (k_2, 3575, .inl (fun _ => 0))), (q_3, .inl (k_4, 3575, .inl (fun _ => 0)))]) hP hD
  have hK : va_K (dC, dI) vwCl [(k_2, .int), (k_4, .int)] s := hK
  refine W.widen (k := 2) (n := 7150) (Nat.le_of_ble_eq_true rfl) (Nat.le_of_ble_eq_true rfl) ?_
  refine va_putF (D := (dC, dI)) (ci := 9) (v := .ref q_3) (ty := .array .int) (C := RX9) (T := TX9) (N := 6) hx hb hts (fun w h => List.mem_cons_of_mem _ (jnGA_X9 w h)) tyX9 tyX9_ok nmX9 hown hK hP hD hS 0 rfl rfl 1 (by decide) (hts _ (List.mem_cons_of_mem _ mGA_112)) (fun _ h9 => h9) rfl hin rfl (by decide +kernel) rfl rfl (Nat.le_of_ble_eq_true rfl) (dk_at dkX9_init 9 rfl) (fun H locs hP hD hS => ?_)
  obtain ⟨hP, hD⟩ := gz_both (w := [(h0, .inr (9, [.ref q_1, .ref q_3, .null, .int 0, .int 0, .int 0])), (q_1, .inl (k_2, 3575, .inl (fun _ => 0))), (q_3, .inl (k_4, 3575, .inl (fun _ => 0)))]) hP hD
  refine lv_aload_n hx hb (dk_at dkX9_init 10 rfl) rfl (lv_at hl 0 rfl) ?_
  refine lv_sipush (v := 325) hx hb (dk_at dkX9_init 11 rfl) (by decide) ?_
  refine va_newa (atype := .int) (ty := .int) (a0 := (325, .inl (fun _ => 0))) hx hb (hts _ (List.mem_cons_of_mem _ mGA_37)) rfl hK hP hD hS hA (fun _ => rfl) (by decide) (by decide) (Nat.le_of_ble_eq_true rfl) (Nat.le_of_ble_eq_true rfl) (Nat.le_of_ble_eq_true rfl) (dk_at dkX9_init 12 rfl) (fun q_5 k_6 H hK hP hD hS => ?_)
  obtain ⟨hP, hD⟩ := gz_both (w := [(h0, .inr (9, [.ref q_1, .ref q_3, .null, .int 0, .int 0, .int 0])), (q_1, .inl (k_2, 3575, .inl (fun _ => 0))), (q_3, .inl (k_4, 3575, .inl (fun _ => 0))), (q_5, .inl (k_6, 325, .inl (fun _ => 0)))]) hP hD
  have hK : va_K (dC, dI) vwCl [(k_2, .int), (k_4, .int), (k_6, .int)] s := hK
  refine W.widen (k := 3) (n := 7475) (Nat.le_of_ble_eq_true rfl) (Nat.le_of_ble_eq_true rfl) ?_
  refine va_putF (D := (dC, dI)) (ci := 9) (v := .ref q_5) (ty := .array .int) (C := RX9) (T := TX9) (N := 6) hx hb hts (fun w h => List.mem_cons_of_mem _ (jnGA_X9 w h)) tyX9 tyX9_ok nmX9 hown hK hP hD hS 0 rfl rfl 2 (by decide) (hts _ (List.mem_cons_of_mem _ mGA_113)) (fun _ h9 => h9) rfl hin rfl (by decide +kernel) rfl rfl (Nat.le_of_ble_eq_true rfl) (dk_at dkX9_init 13 rfl) (fun H locs hP hD hS => ?_)
  obtain ⟨hP, hD⟩ := gz_both (w := [(h0, .inr (9, [.ref q_1, .ref q_3, .ref q_5, .int 0, .int 0, .int 0])), (q_1, .inl (k_2, 3575, .inl (fun _ => 0))), (q_3, .inl (k_4, 3575, .inl (fun _ => 0))), (q_5, .inl (k_6, 325, .inl (fun _ => 0)))]) hP hD
  have hP9 := hP.sub (ws' := [(h0, .inr (9, [.ref q_1, .ref q_3, .ref q_5, .int 0, .int 0, .int 0])), (q_1, .inl (k_2, 3575, .inl (fun _ => 0))), (q_3, .inl (k_4, 3575, .inl (fun _ => 0))), (q_5, .inl (k_6, 325, .inl (fun _ => 0)))]) [0, 1, 2, 3] rfl
  have hD9 := hD.sub (ws' := [(h0, .inr (9, [.ref q_1, .ref q_3, .ref q_5, .int 0, .int 0, .int 0])), (q_1, .inl (k_2, 3575, .inl (fun _ => 0))), (q_3, .inl (k_4, 3575, .inl (fun _ => 0))), (q_5, .inl (k_6, 325, .inl (fun _ => 0)))]) [0, 1, 2, 3] (by decide +kernel) rfl
  have hK9 := hK.sub (tys' := [(k_2, .int), (k_4, .int), (k_6, .int)]) [0, 1, 2] rfl
  exact W.vret hx hb hr (fun t ht hW => ⟨⟨(), rfl, trivial, (fun n => [q_1, q_3, q_5].getD n 0), (fun n => [k_2, k_4, k_6].getD n k_2), by rw [ht]; exact hP9, va_K.moved hW.alike hK9, hD9⟩, hS.F ht⟩) hS.2.2 (dk_at dkX9_init 14 rfl)
noncomputable def lsX8_init : List (Nat × Instr × Nat) := [(0, .aload_n 0, 1), (1, .invokespecial 3, 3), (4, .aload_n 0, 1), (5, .sipush 325, 3), (8, .newarray .int, 2), (10, .putfield 9, 3), (13, .aload_n 0, 1), (14, .sipush 3575, 3), (17, .newarray .int, 2), (19, .putfield 15, 3), (22, .return_, 1)]
theorem dkX8_init : dkAll cX8_init lsX8_init = true := by decide +kernel
set_option maxHeartbeats 4000000 in
set_option maxRecDepth 100000 in
theorem fX8_init (l : Launch) (dC : Nat → ClassId) (dI : Nat → Nat → Nat) (sz : Nat) (h0 : Nat) : Met l yX8_init (.code yX8_init cX8_init 1 none :: wsGA) ({ frames := 1, cells := 2, slots := 3900, locals := 12 }) (va_Pc [.ref h0] (fun U => U.heap.size = sz ∧ va_P (dC, dI) vwCl [(h0, .inr (8, [.null, .null, .int 0, .int 0, .int 0]))] U.heap ∧ va_K (dC, dI) vwCl [] U ∧ va_D (fun _ => True) [(h0, .inr (8, [.null, .null, .int 0, .int 0, .int 0]))])) (va_Qv (fun (u : Unit) => True) (fun _ t => ∃ (q : Nat → Nat) (kk : Nat → ClassId), va_P (dC, dI) vwCl [(h0, .inr (8, [.ref (q 0), .ref (q 1), .int 0, .int 0, .int 0])), ((q 0), .inl ((kk 0), 325, .inl (fun _ => 0))), ((q 1), .inl ((kk 1), 3575, .inl (fun _ => 0)))] t.heap ∧ va_K (dC, dI) vwCl [((kk 0), .int), ((kk 1), .int)] t ∧ va_D (va_A [(h0, .inr (8, [.null, .null, .int 0, .int 0, .int 0]))] sz) [(h0, .inr (8, [.ref (q 0), .ref (q 1), .int 0, .int 0, .int 0])), ((q 0), .inl ((kk 0), 325, .inl (fun _ => 0))), ((q 1), .inl ((kk 1), 3575, .inl (fun _ => 0)))]) (va_A [(h0, .inr (8, [.null, .null, .int 0, .int 0, .int 0]))] sz)) 2 3900 (va_A [(h0, .inr (8, [.null, .null, .int 0, .int 0, .int 0]))] sz) := by
  refine Met.ofW (cc := cX8_init) (maxL := 1) (ret := none) (by decide) rfl ?_
  intro p e s m args below meth c s₁ B hml hv
  obtain ⟨rfl, hsz, hP, hK, hD0⟩ := hv
  have hx := B.exec
  have hb := B.bytes
  have hr := B.returns
  have hts := atoms_spec (ws := (.code yX8_init cX8_init 1 none :: wsGA)) B.pre
  have hown : s.vm.findClass RX8 = some m.cls := findClass_of_methodNamed B.named
  have hlocks := B.notSynchronized
  have hin : meth.name = "<init>" := (name_of_methodNamed B.named B.method).1
  subst hsz
  have hD := hD0.self (sz := s.heap.size)
  generalize hAe : va_A [(h0, .inr (8, [.null, .null, .int 0, .int 0, .int 0]))] s.heap.size = A at hD ⊢
  have hA : ∀ q : Nat, s.heap.size ≤ q → A q := fun q h => by rw [← hAe]; exact Or.inr h
  have hS : va_S A s.heap s.heap [] := va_S.rf
  have hl := lv_entry ([.ref h0]) (n := 1) (Nat.le_of_ble_eq_true rfl)
  rw [lg_entry_eq]
  generalize (lg_sl ([.ref h0]) ++ List.replicate (1 - (lg_sl ([.ref h0])).length) Slot.unset).toArray = ls at hl ⊢
  have hl : lv_has ls 1 [(0, .ref h0)] := hl
  refine lv_aload_n hx hb (dk_at dkX8_init 0 rfl) rfl (lv_at hl 0 rfl) ?_
  refine W.objInit hx hb hown (hts _ (List.mem_cons_of_mem _ mGA_116)) (hts _ (List.mem_cons_of_mem _ mGA_5)) (hts _ (List.mem_cons_of_mem _ mGA_6)) rfl (by rw [hml]; exact hl.1) rfl (dk_at dkX8_init 1 rfl) (Nat.le_of_ble_eq_true rfl) (Nat.le_of_ble_eq_true rfl) ?_
  refine W.eq (g2 := F0 m 4 ls []) rfl ?_
  refine lv_aload_n hx hb (dk_at dkX8_init 2 rfl) rfl (lv_at hl 0 rfl) ?_
  refine lv_sipush (v := 325) hx hb (dk_at dkX8_init 3 rfl) (by decide) ?_
  refine va_newa (atype := .int) (ty := .int) (a0 := (325, .inl (fun _ => 0))) hx hb (hts _ (List.mem_cons_of_mem _ mGA_37)) rfl hK hP hD hS hA (fun _ => rfl) (by decide) (by decide) (Nat.le_of_ble_eq_true rfl) (Nat.le_of_ble_eq_true rfl) (Nat.le_of_ble_eq_true rfl) (dk_at dkX8_init 4 rfl) (fun q_1 k_2 H hK hP hD hS => ?_)
  obtain ⟨hP, hD⟩ := gz_both (w := [(h0, .inr (8, [.null, .null, .int 0, .int 0, .int 0])), (q_1, .inl (k_2, 325, .inl (fun _ => 0)))]) hP hD
  have hK : va_K (dC, dI) vwCl [(k_2, .int)] s := hK
  refine W.widen (k := 1) (n := 325) (Nat.le_of_ble_eq_true rfl) (Nat.le_of_ble_eq_true rfl) ?_
  refine va_putF (D := (dC, dI)) (ci := 8) (v := .ref q_1) (ty := .array .int) (C := RX8) (T := TX8) (N := 5) hx hb hts (fun w h => List.mem_cons_of_mem _ (jnGA_X8 w h)) tyX8 tyX8_ok nmX8 hown hK hP hD hS 0 rfl rfl 0 (by decide) (hts _ (List.mem_cons_of_mem _ mGA_117)) (fun _ h9 => h9) rfl hin rfl (by decide +kernel) rfl rfl (Nat.le_of_ble_eq_true rfl) (dk_at dkX8_init 5 rfl) (fun H locs hP hD hS => ?_)
  obtain ⟨hP, hD⟩ := gz_both (w := [(h0, .inr (8, [.ref q_1, .null, .int 0, .int 0, .int 0])), (q_1, .inl (k_2, 325, .inl (fun _ => 0)))]) hP hD
  refine lv_aload_n hx hb (dk_at dkX8_init 6 rfl) rfl (lv_at hl 0 rfl) ?_
  refine lv_sipush (v := 3575) hx hb (dk_at dkX8_init 7 rfl) (by decide) ?_
  refine va_newa (atype := .int) (ty := .int) (a0 := (3575, .inl (fun _ => 0))) hx hb (hts _ (List.mem_cons_of_mem _ mGA_37)) rfl hK hP hD hS hA (fun _ => rfl) (by decide) (by decide) (Nat.le_of_ble_eq_true rfl) (Nat.le_of_ble_eq_true rfl) (Nat.le_of_ble_eq_true rfl) (dk_at dkX8_init 8 rfl) (fun q_3 k_4 H hK hP hD hS => ?_)
  obtain ⟨hP, hD⟩ := gz_both (w := [(h0, .inr (8, [.ref q_1, .null, .int 0, .int 0, .int 0])), (q_1, .inl (k_2, 325, .inl (fun _ => 0))), (q_3, .inl (k_4, 3575, .inl (fun _ => 0)))]) hP hD
  have hK : va_K (dC, dI) vwCl [(k_2, .int), (k_4, .int)] s := hK
  refine W.widen (k := 2) (n := 3900) (Nat.le_of_ble_eq_true rfl) (Nat.le_of_ble_eq_true rfl) ?_
  refine va_putF (D := (dC, dI)) (ci := 8) (v := .ref q_3) (ty := .array .int) (C := RX8) (T := TX8) (N := 5) hx hb hts (fun w h => List.mem_cons_of_mem _ (jnGA_X8 w h)) tyX8 tyX8_ok nmX8 hown hK hP hD hS 0 rfl rfl 1 (by decide) (hts _ (List.mem_cons_of_mem _ mGA_118)) (fun _ h9 => h9) rfl hin rfl (by decide +kernel) rfl rfl (Nat.le_of_ble_eq_true rfl) (dk_at dkX8_init 9 rfl) (fun H locs hP hD hS => ?_)
  obtain ⟨hP, hD⟩ := gz_both (w := [(h0, .inr (8, [.ref q_1, .ref q_3, .int 0, .int 0, .int 0])), (q_1, .inl (k_2, 325, .inl (fun _ => 0))), (q_3, .inl (k_4, 3575, .inl (fun _ => 0)))]) hP hD
  have hP9 := hP.sub (ws' := [(h0, .inr (8, [.ref q_1, .ref q_3, .int 0, .int 0, .int 0])), (q_1, .inl (k_2, 325, .inl (fun _ => 0))), (q_3, .inl (k_4, 3575, .inl (fun _ => 0)))]) [0, 1, 2] rfl
  have hD9 := hD.sub (ws' := [(h0, .inr (8, [.ref q_1, .ref q_3, .int 0, .int 0, .int 0])), (q_1, .inl (k_2, 325, .inl (fun _ => 0))), (q_3, .inl (k_4, 3575, .inl (fun _ => 0)))]) [0, 1, 2] (by decide +kernel) rfl
  have hK9 := hK.sub (tys' := [(k_2, .int), (k_4, .int)]) [0, 1] rfl
  exact W.vret hx hb hr (fun t ht hW => ⟨⟨(), rfl, trivial, (fun n => [q_1, q_3].getD n 0), (fun n => [k_2, k_4].getD n k_2), by rw [ht]; exact hP9, va_K.moved hW.alike hK9, hD9⟩, hS.F ht⟩) hS.2.2 (dk_at dkX8_init 10 rfl)
noncomputable def lsX4_init : List (Nat × Instr × Nat) := [(0, .aload_n 0, 1), (1, .invokespecial 3, 3), (4, .aload_n 0, 1), (5, .bipush 25, 2), (7, .newarray .int, 2), (9, .putfield 11, 3), (12, .aload_n 0, 1), (13, .sipush 625, 3), (16, .newarray .int, 2), (18, .putfield 15, 3), (21, .aload_n 0, 1), (22, .iconst 0, 1), (23, .putfield 18, 3), (26, .return_, 1)]
theorem dkX4_init : dkAll cX4_init lsX4_init = true := by decide +kernel
set_option maxHeartbeats 4000000 in
set_option maxRecDepth 100000 in
theorem fX4_init (l : Launch) (dC : Nat → ClassId) (dI : Nat → Nat → Nat) (sz : Nat) (h0 : Nat) : Met l yX4_init (.code yX4_init cX4_init 1 none :: wsGA) ({ frames := 1, cells := 2, slots := 650, locals := 12 }) (va_Pc [.ref h0] (fun U => U.heap.size = sz ∧ va_P (dC, dI) vwCl [(h0, .inr (4, [.null, .null, .int 0]))] U.heap ∧ va_K (dC, dI) vwCl [] U ∧ va_D (fun _ => True) [(h0, .inr (4, [.null, .null, .int 0]))])) (va_Qv (fun (u : Unit) => True) (fun _ t => ∃ (q : Nat → Nat) (kk : Nat → ClassId), va_P (dC, dI) vwCl [(h0, .inr (4, [.ref (q 0), .ref (q 1), .int 0])), ((q 0), .inl ((kk 0), 25, .inl (fun _ => 0))), ((q 1), .inl ((kk 1), 625, .inl (fun _ => 0)))] t.heap ∧ va_K (dC, dI) vwCl [((kk 0), .int), ((kk 1), .int)] t ∧ va_D (va_A [(h0, .inr (4, [.null, .null, .int 0]))] sz) [(h0, .inr (4, [.ref (q 0), .ref (q 1), .int 0])), ((q 0), .inl ((kk 0), 25, .inl (fun _ => 0))), ((q 1), .inl ((kk 1), 625, .inl (fun _ => 0)))]) (va_A [(h0, .inr (4, [.null, .null, .int 0]))] sz)) 2 650 (va_A [(h0, .inr (4, [.null, .null, .int 0]))] sz) := by
  refine Met.ofW (cc := cX4_init) (maxL := 1) (ret := none) (by decide) rfl ?_
  intro p e s m args below meth c s₁ B hml hv
  obtain ⟨rfl, hsz, hP, hK, hD0⟩ := hv
  have hx := B.exec
  have hb := B.bytes
  have hr := B.returns
  have hts := atoms_spec (ws := (.code yX4_init cX4_init 1 none :: wsGA)) B.pre
  have hown : s.vm.findClass RX4 = some m.cls := findClass_of_methodNamed B.named
  have hlocks := B.notSynchronized
  have hin : meth.name = "<init>" := (name_of_methodNamed B.named B.method).1
  subst hsz
  have hD := hD0.self (sz := s.heap.size)
  generalize hAe : va_A [(h0, .inr (4, [.null, .null, .int 0]))] s.heap.size = A at hD ⊢
  have hA : ∀ q : Nat, s.heap.size ≤ q → A q := fun q h => by rw [← hAe]; exact Or.inr h
  have hS : va_S A s.heap s.heap [] := va_S.rf
  have hl := lv_entry ([.ref h0]) (n := 1) (Nat.le_of_ble_eq_true rfl)
  rw [lg_entry_eq]
  generalize (lg_sl ([.ref h0]) ++ List.replicate (1 - (lg_sl ([.ref h0])).length) Slot.unset).toArray = ls at hl ⊢
  have hl : lv_has ls 1 [(0, .ref h0)] := hl
  refine lv_aload_n hx hb (dk_at dkX4_init 0 rfl) rfl (lv_at hl 0 rfl) ?_
  refine W.objInit hx hb hown (hts _ (List.mem_cons_of_mem _ mGA_121)) (hts _ (List.mem_cons_of_mem _ mGA_5)) (hts _ (List.mem_cons_of_mem _ mGA_6)) rfl (by rw [hml]; exact hl.1) rfl (dk_at dkX4_init 1 rfl) (Nat.le_of_ble_eq_true rfl) (Nat.le_of_ble_eq_true rfl) ?_
  refine W.eq (g2 := F0 m 4 ls []) rfl ?_
  refine lv_aload_n hx hb (dk_at dkX4_init 2 rfl) rfl (lv_at hl 0 rfl) ?_
  refine lv_bipush (v := 25) hx hb (dk_at dkX4_init 3 rfl) (by decide) ?_
  refine va_newa (atype := .int) (ty := .int) (a0 := (25, .inl (fun _ => 0))) hx hb (hts _ (List.mem_cons_of_mem _ mGA_37)) rfl hK hP hD hS hA (fun _ => rfl) (by decide) (by decide) (Nat.le_of_ble_eq_true rfl) (Nat.le_of_ble_eq_true rfl) (Nat.le_of_ble_eq_true rfl) (dk_at dkX4_init 4 rfl) (fun q_1 k_2 H hK hP hD hS => ?_)
  obtain ⟨hP, hD⟩ := gz_both (w := [(h0, .inr (4, [.null, .null, .int 0])), (q_1, .inl (k_2, 25, .inl (fun _ => 0)))]) hP hD
  have hK : va_K (dC, dI) vwCl [(k_2, .int)] s := hK
  refine W.widen (k := 1) (n := 25) (Nat.le_of_ble_eq_true rfl) (Nat.le_of_ble_eq_true rfl) ?_
  refine va_putF (D := (dC, dI)) (ci := 4) (v := .ref q_1) (ty := .array .int) (C := RX4) (T := TX4) (N := 3) hx hb hts (fun w h => List.mem_cons_of_mem _ (jnGA_X4 w h)) tyX4 tyX4_ok nmX4 hown hK hP hD hS 0 rfl rfl 0 (by decide) (hts _ (List.mem_cons_of_mem _ mGA_122)) (fun _ h9 => h9) rfl hin rfl (by decide +kernel) rfl rfl (Nat.le_of_ble_eq_true rfl) (dk_at dkX4_init 5 rfl) (fun H locs hP hD hS => ?_)
  obtain ⟨hP, hD⟩ := gz_both (w := [(h0, .inr (4, [.ref q_1, .null, .int 0])), (q_1, .inl (k_2, 25, .inl (fun _ => 0)))]) hP hD
  refine lv_aload_n hx hb (dk_at dkX4_init 6 rfl) rfl (lv_at hl 0 rfl) ?_
  refine lv_sipush (v := 625) hx hb (dk_at dkX4_init 7 rfl) (by decide) ?_
  refine va_newa (atype := .int) (ty := .int) (a0 := (625, .inl (fun _ => 0))) hx hb (hts _ (List.mem_cons_of_mem _ mGA_37)) rfl hK hP hD hS hA (fun _ => rfl) (by decide) (by decide) (Nat.le_of_ble_eq_true rfl) (Nat.le_of_ble_eq_true rfl) (Nat.le_of_ble_eq_true rfl) (dk_at dkX4_init 8 rfl) (fun q_3 k_4 H hK hP hD hS => ?_)
  obtain ⟨hP, hD⟩ := gz_both (w := [(h0, .inr (4, [.ref q_1, .null, .int 0])), (q_1, .inl (k_2, 25, .inl (fun _ => 0))), (q_3, .inl (k_4, 625, .inl (fun _ => 0)))]) hP hD
  have hK : va_K (dC, dI) vwCl [(k_2, .int), (k_4, .int)] s := hK
  refine W.widen (k := 2) (n := 650) (Nat.le_of_ble_eq_true rfl) (Nat.le_of_ble_eq_true rfl) ?_
  refine va_putF (D := (dC, dI)) (ci := 4) (v := .ref q_3) (ty := .array .int) (C := RX4) (T := TX4) (N := 3) hx hb hts (fun w h => List.mem_cons_of_mem _ (jnGA_X4 w h)) tyX4 tyX4_ok nmX4 hown hK hP hD hS 0 rfl rfl 1 (by decide) (hts _ (List.mem_cons_of_mem _ mGA_123)) (fun _ h9 => h9) rfl hin rfl (by decide +kernel) rfl rfl (Nat.le_of_ble_eq_true rfl) (dk_at dkX4_init 9 rfl) (fun H locs hP hD hS => ?_)
  obtain ⟨hP, hD⟩ := gz_both (w := [(h0, .inr (4, [.ref q_1, .ref q_3, .int 0])), (q_1, .inl (k_2, 25, .inl (fun _ => 0))), (q_3, .inl (k_4, 625, .inl (fun _ => 0)))]) hP hD
  refine lv_aload_n hx hb (dk_at dkX4_init 10 rfl) rfl (lv_at hl 0 rfl) ?_
  refine lv_iconst (v := 0) hx hb (dk_at dkX4_init 11 rfl) (by decide) ?_
  refine va_put (D := (dC, dI)) (ci := 4) (v := .int 0) (ty := .int) (C := RX4) (T := TX4) (N := 3) hx hb hts (fun w h => List.mem_cons_of_mem _ (jnGA_X4 w h)) tyX4 tyX4_ok nmX4 hown hK hP hD hS 0 rfl rfl 2 (by decide) (hts _ (List.mem_cons_of_mem _ mGA_124)) (fun _ h9 => h9) rfl (by decide +kernel) rfl rfl (Nat.le_of_ble_eq_true rfl) (dk_at dkX4_init 12 rfl) (fun H locs hP hD hS => ?_)
  obtain ⟨hP, hD⟩ := gz_both (w := [(h0, .inr (4, [.ref q_1, .ref q_3, .int 0])), (q_1, .inl (k_2, 25, .inl (fun _ => 0))), (q_3, .inl (k_4, 625, .inl (fun _ => 0)))]) hP hD
  have hP9 := hP.sub (ws' := [(h0, .inr (4, [.ref q_1, .ref q_3, .int 0])), (q_1, .inl (k_2, 25, .inl (fun _ => 0))), (q_3, .inl (k_4, 625, .inl (fun _ => 0)))]) [0, 1, 2] rfl
  have hD9 := hD.sub (ws' := [(h0, .inr (4, [.ref q_1, .ref q_3, .int 0])), (q_1, .inl (k_2, 25, .inl (fun _ => 0))), (q_3, .inl (k_4, 625, .inl (fun _ => 0)))]) [0, 1, 2] (by decide +kernel) rfl
  have hK9 := hK.sub (tys' := [(k_2, .int), (k_4, .int)]) [0, 1] rfl
  exact W.vret hx hb hr (fun t ht hW => ⟨⟨(), rfl, trivial, (fun n => [q_1, q_3].getD n 0), (fun n => [k_2, k_4].getD n k_2), by rw [ht]; exact hP9, va_K.moved hW.alike hK9, hD9⟩, hS.F ht⟩) hS.2.2 (dk_at dkX4_init 13 rfl)
noncomputable def lsX10_init : List (Nat × Instr × Nat) := [(0, .aload_n 0, 1), (1, .invokespecial 3, 3), (4, .aload_n 0, 1), (5, .sipush 1600, 3), (8, .newarray .byte, 2), (10, .putfield 9, 3), (13, .aload_n 0, 1), (14, .iconst 0, 1), (15, .putfield 15, 3), (18, .return_, 1)]
theorem dkX10_init : dkAll cX10_init lsX10_init = true := by decide +kernel
set_option maxHeartbeats 4000000 in
set_option maxRecDepth 100000 in
theorem fX10_init (l : Launch) (dC : Nat → ClassId) (dI : Nat → Nat → Nat) (sz : Nat) (h0 : Nat) : Met l yX10_init (.code yX10_init cX10_init 1 none :: wsGA) ({ frames := 1, cells := 1, slots := 1600, locals := 12 }) (va_Pc [.ref h0] (fun U => U.heap.size = sz ∧ va_P (dC, dI) vwCl [(h0, .inr (10, [.null, .int 0]))] U.heap ∧ va_K (dC, dI) vwCl [] U ∧ va_D (fun _ => True) [(h0, .inr (10, [.null, .int 0]))])) (va_Qv (fun (u : Unit) => True) (fun _ t => ∃ (q : Nat → Nat) (kk : Nat → ClassId), va_P (dC, dI) vwCl [(h0, .inr (10, [.ref (q 0), .int 0])), ((q 0), .inl ((kk 0), 1600, .inl (fun _ => 0)))] t.heap ∧ va_K (dC, dI) vwCl [((kk 0), .byte)] t ∧ va_D (va_A [(h0, .inr (10, [.null, .int 0]))] sz) [(h0, .inr (10, [.ref (q 0), .int 0])), ((q 0), .inl ((kk 0), 1600, .inl (fun _ => 0)))]) (va_A [(h0, .inr (10, [.null, .int 0]))] sz)) 1 1600 (va_A [(h0, .inr (10, [.null, .int 0]))] sz) := by
  refine Met.ofW (cc := cX10_init) (maxL := 1) (ret := none) (by decide) rfl ?_
  intro p e s m args below meth c s₁ B hml hv
  obtain ⟨rfl, hsz, hP, hK, hD0⟩ := hv
  have hx := B.exec
  have hb := B.bytes
  have hr := B.returns
  have hts := atoms_spec (ws := (.code yX10_init cX10_init 1 none :: wsGA)) B.pre
  have hown : s.vm.findClass RX10 = some m.cls := findClass_of_methodNamed B.named
  have hlocks := B.notSynchronized
  have hin : meth.name = "<init>" := (name_of_methodNamed B.named B.method).1
  subst hsz
  have hD := hD0.self (sz := s.heap.size)
  generalize hAe : va_A [(h0, .inr (10, [.null, .int 0]))] s.heap.size = A at hD ⊢
  have hA : ∀ q : Nat, s.heap.size ≤ q → A q := fun q h => by rw [← hAe]; exact Or.inr h
  have hS : va_S A s.heap s.heap [] := va_S.rf
  have hl := lv_entry ([.ref h0]) (n := 1) (Nat.le_of_ble_eq_true rfl)
  rw [lg_entry_eq]
  generalize (lg_sl ([.ref h0]) ++ List.replicate (1 - (lg_sl ([.ref h0])).length) Slot.unset).toArray = ls at hl ⊢
  have hl : lv_has ls 1 [(0, .ref h0)] := hl
  refine lv_aload_n hx hb (dk_at dkX10_init 0 rfl) rfl (lv_at hl 0 rfl) ?_
  refine W.objInit hx hb hown (hts _ (List.mem_cons_of_mem _ mGA_62)) (hts _ (List.mem_cons_of_mem _ mGA_5)) (hts _ (List.mem_cons_of_mem _ mGA_6)) rfl (by rw [hml]; exact hl.1) rfl (dk_at dkX10_init 1 rfl) (Nat.le_of_ble_eq_true rfl) (Nat.le_of_ble_eq_true rfl) ?_
  refine W.eq (g2 := F0 m 4 ls []) rfl ?_
  refine lv_aload_n hx hb (dk_at dkX10_init 2 rfl) rfl (lv_at hl 0 rfl) ?_
  refine lv_sipush (v := 1600) hx hb (dk_at dkX10_init 3 rfl) (by decide) ?_
  refine va_newa (atype := .byte) (ty := .byte) (a0 := (1600, .inl (fun _ => 0))) hx hb (hts _ (List.mem_cons_of_mem _ mGA_39)) rfl hK hP hD hS hA (fun _ => rfl) (by decide) (by decide) (Nat.le_of_ble_eq_true rfl) (Nat.le_of_ble_eq_true rfl) (Nat.le_of_ble_eq_true rfl) (dk_at dkX10_init 4 rfl) (fun q_1 k_2 H hK hP hD hS => ?_)
  obtain ⟨hP, hD⟩ := gz_both (w := [(h0, .inr (10, [.null, .int 0])), (q_1, .inl (k_2, 1600, .inl (fun _ => 0)))]) hP hD
  have hK : va_K (dC, dI) vwCl [(k_2, .byte)] s := hK
  refine W.widen (k := 1) (n := 1600) (Nat.le_of_ble_eq_true rfl) (Nat.le_of_ble_eq_true rfl) ?_
  refine va_putF (D := (dC, dI)) (ci := 10) (v := .ref q_1) (ty := .array .byte) (C := RX10) (T := TX10) (N := 2) hx hb hts (fun w h => List.mem_cons_of_mem _ (jnGA_X10 w h)) tyX10 tyX10_ok nmX10 hown hK hP hD hS 0 rfl rfl 0 (by decide) (hts _ (List.mem_cons_of_mem _ mGA_63)) (fun _ h9 => h9) rfl hin rfl (by decide +kernel) rfl rfl (Nat.le_of_ble_eq_true rfl) (dk_at dkX10_init 5 rfl) (fun H locs hP hD hS => ?_)
  obtain ⟨hP, hD⟩ := gz_both (w := [(h0, .inr (10, [.ref q_1, .int 0])), (q_1, .inl (k_2, 1600, .inl (fun _ => 0)))]) hP hD
  refine lv_aload_n hx hb (dk_at dkX10_init 6 rfl) rfl (lv_at hl 0 rfl) ?_
  refine lv_iconst (v := 0) hx hb (dk_at dkX10_init 7 rfl) (by decide) ?_
  refine va_put (D := (dC, dI)) (ci := 10) (v := .int 0) (ty := .int) (C := RX10) (T := TX10) (N := 2) hx hb hts (fun w h => List.mem_cons_of_mem _ (jnGA_X10 w h)) tyX10 tyX10_ok nmX10 hown hK hP hD hS 0 rfl rfl 1 (by decide) (hts _ (List.mem_cons_of_mem _ mGA_64)) (fun _ h9 => h9) rfl (by decide +kernel) rfl rfl (Nat.le_of_ble_eq_true rfl) (dk_at dkX10_init 8 rfl) (fun H locs hP hD hS => ?_)
  obtain ⟨hP, hD⟩ := gz_both (w := [(h0, .inr (10, [.ref q_1, .int 0])), (q_1, .inl (k_2, 1600, .inl (fun _ => 0)))]) hP hD
  have hP9 := hP.sub (ws' := [(h0, .inr (10, [.ref q_1, .int 0])), (q_1, .inl (k_2, 1600, .inl (fun _ => 0)))]) [0, 1] rfl
  have hD9 := hD.sub (ws' := [(h0, .inr (10, [.ref q_1, .int 0])), (q_1, .inl (k_2, 1600, .inl (fun _ => 0)))]) [0, 1] (by decide +kernel) rfl
  have hK9 := hK.sub (tys' := [(k_2, .byte)]) [0] rfl
  exact W.vret hx hb hr (fun t ht hW => ⟨⟨(), rfl, trivial, (fun n => [q_1].getD n 0), (fun n => [k_2].getD n k_2), by rw [ht]; exact hP9, va_K.moved hW.alike hK9, hD9⟩, hS.F ht⟩) hS.2.2 (dk_at dkX10_init 9 rfl)
noncomputable def lsX1_init : List (Nat × Instr × Nat) := [(0, .aload_n 0, 1), (1, .invokespecial 3, 3), (4, .aload_n 0, 1), (5, .new 9, 3), (8, .dup, 1), (9, .invokespecial 11, 3), (12, .putfield 12, 3), (15, .aload_n 0, 1), (16, .bipush 24, 2), (18, .newarray .int, 2), (20, .putfield 18, 3), (23, .aload_n 0, 1), (24, .bipush 24, 2), (26, .newarray .int, 2), (28, .putfield 22, 3), (31, .aload_n 0, 1), (32, .bipush 24, 2), (34, .newarray .long, 2), (36, .putfield 25, 3), (39, .aload_n 0, 1), (40, .bipush 25, 2), (42, .newarray .int, 2), (44, .putfield 29, 3), (47, .aload_n 0, 1), (48, .iconst 0, 1), (49, .putfield 32, 3), (52, .aload_n 0, 1), (53, .iconst 0, 1), (54, .putfield 36, 3), (57, .return_, 1)]
theorem dkX1_init : dkAll cX1_init lsX1_init = true := by decide +kernel
set_option maxHeartbeats 4000000 in
set_option maxRecDepth 100000 in
theorem fX1_init (l : Launch) (dC : Nat → ClassId) (dI : Nat → Nat → Nat) (sz : Nat) (h0 : Nat) : Met l yX1_init (.code yX1_init cX1_init 1 none :: wsGA) ({ frames := 2, cells := 7, slots := 402, locals := 32 }) (va_Pc [.ref h0] (fun U => U.heap.size = sz ∧ va_P (dC, dI) vwCl [(h0, .inr (1, [.null, .null, .null, .null, .null, .int 0, .int 0]))] U.heap ∧ va_K (dC, dI) vwCl [] U ∧ va_D (fun _ => True) [(h0, .inr (1, [.null, .null, .null, .null, .null, .int 0, .int 0]))] ∧ nzA U)) (va_Qv (fun (u : Unit) => True) (fun _ t => ∃ (q : Nat → Nat) (kk : Nat → ClassId), va_P (dC, dI) vwCl [(h0, .inr (1, [.ref (q 0), .ref (q 3), .ref (q 4), .ref (q 5), .ref (q 6), .int 0, .int 0])), ((q 3), .inl ((kk 2), 24, .inl (fun _ => 0))), ((q 4), .inl ((kk 3), 24, .inl (fun _ => 0))), ((q 5), .inl ((kk 4), 24, .inr (.inl (fun _ => 0)))), ((q 6), .inl ((kk 5), 25, .inl (fun _ => 0))), ((q 0), .inr (3, [.int 0, .int 0, .int 0, .ref (q 1), .ref (q 2)])), ((q 1), .inl ((kk 0), 25, .inl (fun _ => 0))), ((q 2), .inl ((kk 1), 275, .inl (fun _ => 0)))] t.heap ∧ va_K (dC, dI) vwCl [((kk 2), .int), ((kk 3), .int), ((kk 4), .long), ((kk 5), .int), ((kk 0), .int), ((kk 1), .int)] t ∧ va_D (va_A [(h0, .inr (1, [.null, .null, .null, .null, .null, .int 0, .int 0]))] sz) [(h0, .inr (1, [.ref (q 0), .ref (q 3), .ref (q 4), .ref (q 5), .ref (q 6), .int 0, .int 0])), ((q 3), .inl ((kk 2), 24, .inl (fun _ => 0))), ((q 4), .inl ((kk 3), 24, .inl (fun _ => 0))), ((q 5), .inl ((kk 4), 24, .inr (.inl (fun _ => 0)))), ((q 6), .inl ((kk 5), 25, .inl (fun _ => 0))), ((q 0), .inr (3, [.int 0, .int 0, .int 0, .ref (q 1), .ref (q 2)])), ((q 1), .inl ((kk 0), 25, .inl (fun _ => 0))), ((q 2), .inl ((kk 1), 275, .inl (fun _ => 0)))]) (va_A [(h0, .inr (1, [.null, .null, .null, .null, .null, .int 0, .int 0]))] sz)) 7 402 (va_A [(h0, .inr (1, [.null, .null, .null, .null, .null, .int 0, .int 0]))] sz) := by
  refine Met.ofW (cc := cX1_init) (maxL := 1) (ret := none) (by decide) rfl ?_
  intro p e s m args below meth c s₁ B hml hv
  obtain ⟨rfl, hsz, hP, hK, hD0, hz⟩ := hv
  have hx := B.exec
  have hb := B.bytes
  have hr := B.returns
  have hts := atoms_spec (ws := (.code yX1_init cX1_init 1 none :: wsGA)) B.pre
  have hown : s.vm.findClass RX1 = some m.cls := findClass_of_methodNamed B.named
  have hlocks := B.notSynchronized
  have hin : meth.name = "<init>" := (name_of_methodNamed B.named B.method).1
  subst hsz
  have hD := hD0.self (sz := s.heap.size)
  generalize hAe : va_A [(h0, .inr (1, [.null, .null, .null, .null, .null, .int 0, .int 0]))] s.heap.size = A at hD ⊢
  have hA : ∀ q : Nat, s.heap.size ≤ q → A q := fun q h => by rw [← hAe]; exact Or.inr h
  have hS : va_S A s.heap s.heap [] := va_S.rf
  have hl := lv_entry ([.ref h0]) (n := 1) (Nat.le_of_ble_eq_true rfl)
  rw [lg_entry_eq]
  generalize (lg_sl ([.ref h0]) ++ List.replicate (1 - (lg_sl ([.ref h0])).length) Slot.unset).toArray = ls at hl ⊢
  have hl : lv_has ls 1 [(0, .ref h0)] := hl
  refine lv_aload_n hx hb (dk_at dkX1_init 0 rfl) rfl (lv_at hl 0 rfl) ?_
  refine W.objInit hx hb hown (hts _ (List.mem_cons_of_mem _ mGA_98)) (hts _ (List.mem_cons_of_mem _ mGA_5)) (hts _ (List.mem_cons_of_mem _ mGA_6)) rfl (by rw [hml]; exact hl.1) rfl (dk_at dkX1_init 1 rfl) (Nat.le_of_ble_eq_true rfl) (Nat.le_of_ble_eq_true rfl) ?_
  refine W.eq (g2 := F0 m 4 ls []) rfl ?_
  refine lv_aload_n hx hb (dk_at dkX1_init 2 rfl) rfl (lv_at hl 0 rfl) ?_
  refine va_new (ci := 3) (fs := [.int 0, .int 0, .int 0, .null, .null]) (C := RX3) (T := TX3) (N := 5) hx hb hts (fun w h => List.mem_cons_of_mem _ (jnGA_X3 w h)) tyX3 tyX3_ok hown (hts _ (List.mem_cons_of_mem _ mGA_99)) (hts _ (List.mem_cons_of_mem _ mGA_17)) (hts _ (List.mem_cons_of_mem _ mGA_18)) hK hP hD hS hA rfl dfX3 (Nat.le_of_ble_eq_true rfl) (Nat.le_of_ble_eq_true rfl) (dk_at dkX1_init 3 rfl) (fun q_1 H hP hD hS => ?_)
  refine W.widen (k := 1) (n := 5) (Nat.le_of_ble_eq_true rfl) (Nat.le_of_ble_eq_true rfl) ?_
  refine lv_dup hx hb (dk_at dkX1_init 4 rfl) rfl ?_
  obtain ⟨hPc, hDc, hFc⟩ := gy_cut hP hD hS hA
  have hKc := hK.sub (tys' := []) [] rfl
  refine va_callv (va_runIN (As := []) (rest := [.ref q_1, .ref h0]) ⟨hx, hb, hml, hown, hts⟩ (fX3_init l dC dI H.size q_1) (⟨va_cnB 0 hts (gz_gP mGA_92 goodGA) rfl rfl rfl (nzA_X1_11 hz) (hts _ (List.mem_cons_of_mem _ mGA_18)) (by decide +kernel) ⟨Nat.le_of_ble_eq_true rfl, Nat.le_of_ble_eq_true rfl⟩, rfl, (hts _ (List.mem_cons_of_mem _ mGA_91))⟩) ⟨bl_W, fun U hU hW => ⟨rfl, by rw [hU], by rw [hU]; exact hPc, va_K.moved hW.alike hKc, hDc.weaken (fun _ _ _ _ => trivial)⟩⟩ rfl rfl hl.1 rfl (lv_room (Nat.le_of_ble_eq_true rfl)) (dk_at dkX1_init 5 rfl) ⟨Nat.le_of_ble_eq_true rfl, Nat.le_of_ble_eq_true rfl⟩) hS (fun q _ h => hFc q h) hFc (fun  u t H1 locs ht hvm hw hB hz1 hk1 hS => ?_)
  obtain ⟨q_2, kk_3, hP1, hK1, hD1⟩ := hB
  rw [ht] at hP1
  have hK1 := va_K.moved hvm.symm hK1
  obtain ⟨hP, hD⟩ := gy_join hP hD hk1 hFc hP1 hD1
  have hK := hK.app hK1
  have hK : va_K (dC, dI) vwCl [((kk_3 0), .int), ((kk_3 1), .int)] s := hK
  generalize H1 = H at hP hS ⊢
  refine W.widen (k := 3) (n := 305) (Nat.le_of_ble_eq_true rfl) (Nat.le_of_ble_eq_true rfl) ?_
  refine va_putF (D := (dC, dI)) (ci := 1) (v := .ref q_1) (ty := .object "SightedMonths$Frame") (C := RX1) (T := TX1) (N := 7) hx hb hts (fun w h => List.mem_cons_of_mem _ (jnGA_X1 w h)) tyX1 tyX1_ok nmX1 hown hK hP hD hS 0 rfl rfl 0 (by decide) (hts _ (List.mem_cons_of_mem _ mGA_100)) (fun _ h9 => h9) rfl hin rfl (by decide +kernel) rfl rfl (Nat.le_of_ble_eq_true rfl) (dk_at dkX1_init 6 rfl) (fun H locs hP hD hS => ?_)
  obtain ⟨hP, hD⟩ := gz_both (w := [(h0, .inr (1, [.ref q_1, .null, .null, .null, .null, .int 0, .int 0])), (q_1, .inr (3, [.int 0, .int 0, .int 0, .ref (q_2 0), .ref (q_2 1)])), ((q_2 0), .inl ((kk_3 0), 25, .inl (fun _ => 0))), ((q_2 1), .inl ((kk_3 1), 275, .inl (fun _ => 0)))]) hP hD
  refine lv_aload_n hx hb (dk_at dkX1_init 7 rfl) rfl (lv_at hl 0 rfl) ?_
  refine lv_bipush (v := 24) hx hb (dk_at dkX1_init 8 rfl) (by decide) ?_
  refine va_newa (atype := .int) (ty := .int) (a0 := (24, .inl (fun _ => 0))) hx hb (hts _ (List.mem_cons_of_mem _ mGA_37)) rfl hK hP hD hS hA (fun _ => rfl) (by decide) (by decide) (Nat.le_of_ble_eq_true rfl) (Nat.le_of_ble_eq_true rfl) (Nat.le_of_ble_eq_true rfl) (dk_at dkX1_init 9 rfl) (fun q_5 k_6 H hK hP hD hS => ?_)
  obtain ⟨hP, hD⟩ := gz_both (w := [(h0, .inr (1, [.ref q_1, .null, .null, .null, .null, .int 0, .int 0])), (q_1, .inr (3, [.int 0, .int 0, .int 0, .ref (q_2 0), .ref (q_2 1)])), ((q_2 0), .inl ((kk_3 0), 25, .inl (fun _ => 0))), ((q_2 1), .inl ((kk_3 1), 275, .inl (fun _ => 0))), (q_5, .inl (k_6, 24, .inl (fun _ => 0)))]) hP hD
  have hK : va_K (dC, dI) vwCl [((kk_3 0), .int), ((kk_3 1), .int), (k_6, .int)] s := hK
  refine W.widen (k := 4) (n := 329) (Nat.le_of_ble_eq_true rfl) (Nat.le_of_ble_eq_true rfl) ?_
  refine va_putF (D := (dC, dI)) (ci := 1) (v := .ref q_5) (ty := .array .int) (C := RX1) (T := TX1) (N := 7) hx hb hts (fun w h => List.mem_cons_of_mem _ (jnGA_X1 w h)) tyX1 tyX1_ok nmX1 hown hK hP hD hS 0 rfl rfl 1 (by decide) (hts _ (List.mem_cons_of_mem _ mGA_101)) (fun _ h9 => h9) rfl hin rfl (by decide +kernel) rfl rfl (Nat.le_of_ble_eq_true rfl) (dk_at dkX1_init 10 rfl) (fun H locs hP hD hS => ?_)
  obtain ⟨hP, hD⟩ := gz_both (w := [(h0, .inr (1, [.ref q_1, .ref q_5, .null, .null, .null, .int 0, .int 0])), (q_1, .inr (3, [.int 0, .int 0, .int 0, .ref (q_2 0), .ref (q_2 1)])), ((q_2 0), .inl ((kk_3 0), 25, .inl (fun _ => 0))), ((q_2 1), .inl ((kk_3 1), 275, .inl (fun _ => 0))), (q_5, .inl (k_6, 24, .inl (fun _ => 0)))]) hP hD
  refine lv_aload_n hx hb (dk_at dkX1_init 11 rfl) rfl (lv_at hl 0 rfl) ?_
  refine lv_bipush (v := 24) hx hb (dk_at dkX1_init 12 rfl) (by decide) ?_
  refine va_newa (atype := .int) (ty := .int) (a0 := (24, .inl (fun _ => 0))) hx hb (hts _ (List.mem_cons_of_mem _ mGA_37)) rfl hK hP hD hS hA (fun _ => rfl) (by decide) (by decide) (Nat.le_of_ble_eq_true rfl) (Nat.le_of_ble_eq_true rfl) (Nat.le_of_ble_eq_true rfl) (dk_at dkX1_init 13 rfl) (fun q_7 k_8 H hK hP hD hS => ?_)
  obtain ⟨hP, hD⟩ := gz_both (w := [(h0, .inr (1, [.ref q_1, .ref q_5, .null, .null, .null, .int 0, .int 0])), (q_1, .inr (3, [.int 0, .int 0, .int 0, .ref (q_2 0), .ref (q_2 1)])), ((q_2 0), .inl ((kk_3 0), 25, .inl (fun _ => 0))), ((q_2 1), .inl ((kk_3 1), 275, .inl (fun _ => 0))), (q_5, .inl (k_6, 24, .inl (fun _ => 0))), (q_7, .inl (k_8, 24, .inl (fun _ => 0)))]) hP hD
  have hK : va_K (dC, dI) vwCl [((kk_3 0), .int), ((kk_3 1), .int), (k_6, .int), (k_8, .int)] s := hK
  refine W.widen (k := 5) (n := 353) (Nat.le_of_ble_eq_true rfl) (Nat.le_of_ble_eq_true rfl) ?_
  refine va_putF (D := (dC, dI)) (ci := 1) (v := .ref q_7) (ty := .array .int) (C := RX1) (T := TX1) (N := 7) hx hb hts (fun w h => List.mem_cons_of_mem _ (jnGA_X1 w h)) tyX1 tyX1_ok nmX1 hown hK hP hD hS 0 rfl rfl 2 (by decide) (hts _ (List.mem_cons_of_mem _ mGA_102)) (fun _ h9 => h9) rfl hin rfl (by decide +kernel) rfl rfl (Nat.le_of_ble_eq_true rfl) (dk_at dkX1_init 14 rfl) (fun H locs hP hD hS => ?_)
  obtain ⟨hP, hD⟩ := gz_both (w := [(h0, .inr (1, [.ref q_1, .ref q_5, .ref q_7, .null, .null, .int 0, .int 0])), (q_1, .inr (3, [.int 0, .int 0, .int 0, .ref (q_2 0), .ref (q_2 1)])), ((q_2 0), .inl ((kk_3 0), 25, .inl (fun _ => 0))), ((q_2 1), .inl ((kk_3 1), 275, .inl (fun _ => 0))), (q_5, .inl (k_6, 24, .inl (fun _ => 0))), (q_7, .inl (k_8, 24, .inl (fun _ => 0)))]) hP hD
  refine lv_aload_n hx hb (dk_at dkX1_init 15 rfl) rfl (lv_at hl 0 rfl) ?_
  refine lv_bipush (v := 24) hx hb (dk_at dkX1_init 16 rfl) (by decide) ?_
  refine va_newa (atype := .long) (ty := .long) (a0 := (24, .inr (.inl (fun _ => 0)))) hx hb (hts _ (List.mem_cons_of_mem _ mGA_103)) rfl hK hP hD hS hA (fun _ => rfl) (by decide) (by decide) (Nat.le_of_ble_eq_true rfl) (Nat.le_of_ble_eq_true rfl) (Nat.le_of_ble_eq_true rfl) (dk_at dkX1_init 17 rfl) (fun q_9 k_10 H hK hP hD hS => ?_)
  obtain ⟨hP, hD⟩ := gz_both (w := [(h0, .inr (1, [.ref q_1, .ref q_5, .ref q_7, .null, .null, .int 0, .int 0])), (q_1, .inr (3, [.int 0, .int 0, .int 0, .ref (q_2 0), .ref (q_2 1)])), ((q_2 0), .inl ((kk_3 0), 25, .inl (fun _ => 0))), ((q_2 1), .inl ((kk_3 1), 275, .inl (fun _ => 0))), (q_5, .inl (k_6, 24, .inl (fun _ => 0))), (q_7, .inl (k_8, 24, .inl (fun _ => 0))), (q_9, .inl (k_10, 24, .inr (.inl (fun _ => 0))))]) hP hD
  have hK : va_K (dC, dI) vwCl [((kk_3 0), .int), ((kk_3 1), .int), (k_6, .int), (k_8, .int), (k_10, .long)] s := hK
  refine W.widen (k := 6) (n := 377) (Nat.le_of_ble_eq_true rfl) (Nat.le_of_ble_eq_true rfl) ?_
  refine va_putF (D := (dC, dI)) (ci := 1) (v := .ref q_9) (ty := .array .long) (C := RX1) (T := TX1) (N := 7) hx hb hts (fun w h => List.mem_cons_of_mem _ (jnGA_X1 w h)) tyX1 tyX1_ok nmX1 hown hK hP hD hS 0 rfl rfl 3 (by decide) (hts _ (List.mem_cons_of_mem _ mGA_104)) (fun _ h9 => h9) rfl hin rfl (by decide +kernel) rfl rfl (Nat.le_of_ble_eq_true rfl) (dk_at dkX1_init 18 rfl) (fun H locs hP hD hS => ?_)
  obtain ⟨hP, hD⟩ := gz_both (w := [(h0, .inr (1, [.ref q_1, .ref q_5, .ref q_7, .ref q_9, .null, .int 0, .int 0])), (q_1, .inr (3, [.int 0, .int 0, .int 0, .ref (q_2 0), .ref (q_2 1)])), ((q_2 0), .inl ((kk_3 0), 25, .inl (fun _ => 0))), ((q_2 1), .inl ((kk_3 1), 275, .inl (fun _ => 0))), (q_5, .inl (k_6, 24, .inl (fun _ => 0))), (q_7, .inl (k_8, 24, .inl (fun _ => 0))), (q_9, .inl (k_10, 24, .inr (.inl (fun _ => 0))))]) hP hD
  refine lv_aload_n hx hb (dk_at dkX1_init 19 rfl) rfl (lv_at hl 0 rfl) ?_
  refine lv_bipush (v := 25) hx hb (dk_at dkX1_init 20 rfl) (by decide) ?_
  refine va_newa (atype := .int) (ty := .int) (a0 := (25, .inl (fun _ => 0))) hx hb (hts _ (List.mem_cons_of_mem _ mGA_37)) rfl hK hP hD hS hA (fun _ => rfl) (by decide) (by decide) (Nat.le_of_ble_eq_true rfl) (Nat.le_of_ble_eq_true rfl) (Nat.le_of_ble_eq_true rfl) (dk_at dkX1_init 21 rfl) (fun q_11 k_12 H hK hP hD hS => ?_)
  obtain ⟨hP, hD⟩ := gz_both (w := [(h0, .inr (1, [.ref q_1, .ref q_5, .ref q_7, .ref q_9, .null, .int 0, .int 0])), (q_1, .inr (3, [.int 0, .int 0, .int 0, .ref (q_2 0), .ref (q_2 1)])), ((q_2 0), .inl ((kk_3 0), 25, .inl (fun _ => 0))), ((q_2 1), .inl ((kk_3 1), 275, .inl (fun _ => 0))), (q_5, .inl (k_6, 24, .inl (fun _ => 0))), (q_7, .inl (k_8, 24, .inl (fun _ => 0))), (q_9, .inl (k_10, 24, .inr (.inl (fun _ => 0)))), (q_11, .inl (k_12, 25, .inl (fun _ => 0)))]) hP hD
  have hK : va_K (dC, dI) vwCl [((kk_3 0), .int), ((kk_3 1), .int), (k_6, .int), (k_8, .int), (k_10, .long), (k_12, .int)] s := hK
  refine W.widen (k := 7) (n := 402) (Nat.le_of_ble_eq_true rfl) (Nat.le_of_ble_eq_true rfl) ?_
  refine va_putF (D := (dC, dI)) (ci := 1) (v := .ref q_11) (ty := .array .int) (C := RX1) (T := TX1) (N := 7) hx hb hts (fun w h => List.mem_cons_of_mem _ (jnGA_X1 w h)) tyX1 tyX1_ok nmX1 hown hK hP hD hS 0 rfl rfl 4 (by decide) (hts _ (List.mem_cons_of_mem _ mGA_105)) (fun _ h9 => h9) rfl hin rfl (by decide +kernel) rfl rfl (Nat.le_of_ble_eq_true rfl) (dk_at dkX1_init 22 rfl) (fun H locs hP hD hS => ?_)
  obtain ⟨hP, hD⟩ := gz_both (w := [(h0, .inr (1, [.ref q_1, .ref q_5, .ref q_7, .ref q_9, .ref q_11, .int 0, .int 0])), (q_1, .inr (3, [.int 0, .int 0, .int 0, .ref (q_2 0), .ref (q_2 1)])), ((q_2 0), .inl ((kk_3 0), 25, .inl (fun _ => 0))), ((q_2 1), .inl ((kk_3 1), 275, .inl (fun _ => 0))), (q_5, .inl (k_6, 24, .inl (fun _ => 0))), (q_7, .inl (k_8, 24, .inl (fun _ => 0))), (q_9, .inl (k_10, 24, .inr (.inl (fun _ => 0)))), (q_11, .inl (k_12, 25, .inl (fun _ => 0)))]) hP hD
  refine lv_aload_n hx hb (dk_at dkX1_init 23 rfl) rfl (lv_at hl 0 rfl) ?_
  refine lv_iconst (v := 0) hx hb (dk_at dkX1_init 24 rfl) (by decide) ?_
  refine va_put (D := (dC, dI)) (ci := 1) (v := .int 0) (ty := .int) (C := RX1) (T := TX1) (N := 7) hx hb hts (fun w h => List.mem_cons_of_mem _ (jnGA_X1 w h)) tyX1 tyX1_ok nmX1 hown hK hP hD hS 0 rfl rfl 5 (by decide) (hts _ (List.mem_cons_of_mem _ mGA_106)) (fun _ h9 => h9) rfl (by decide +kernel) rfl rfl (Nat.le_of_ble_eq_true rfl) (dk_at dkX1_init 25 rfl) (fun H locs hP hD hS => ?_)
  obtain ⟨hP, hD⟩ := gz_both (w := [(h0, .inr (1, [.ref q_1, .ref q_5, .ref q_7, .ref q_9, .ref q_11, .int 0, .int 0])), (q_1, .inr (3, [.int 0, .int 0, .int 0, .ref (q_2 0), .ref (q_2 1)])), ((q_2 0), .inl ((kk_3 0), 25, .inl (fun _ => 0))), ((q_2 1), .inl ((kk_3 1), 275, .inl (fun _ => 0))), (q_5, .inl (k_6, 24, .inl (fun _ => 0))), (q_7, .inl (k_8, 24, .inl (fun _ => 0))), (q_9, .inl (k_10, 24, .inr (.inl (fun _ => 0)))), (q_11, .inl (k_12, 25, .inl (fun _ => 0)))]) hP hD
  refine lv_aload_n hx hb (dk_at dkX1_init 26 rfl) rfl (lv_at hl 0 rfl) ?_
  refine lv_iconst (v := 0) hx hb (dk_at dkX1_init 27 rfl) (by decide) ?_
  refine va_put (D := (dC, dI)) (ci := 1) (v := .int 0) (ty := .int) (C := RX1) (T := TX1) (N := 7) hx hb hts (fun w h => List.mem_cons_of_mem _ (jnGA_X1 w h)) tyX1 tyX1_ok nmX1 hown hK hP hD hS 0 rfl rfl 6 (by decide) (hts _ (List.mem_cons_of_mem _ mGA_107)) (fun _ h9 => h9) rfl (by decide +kernel) rfl rfl (Nat.le_of_ble_eq_true rfl) (dk_at dkX1_init 28 rfl) (fun H locs hP hD hS => ?_)
  obtain ⟨hP, hD⟩ := gz_both (w := [(h0, .inr (1, [.ref q_1, .ref q_5, .ref q_7, .ref q_9, .ref q_11, .int 0, .int 0])), (q_1, .inr (3, [.int 0, .int 0, .int 0, .ref (q_2 0), .ref (q_2 1)])), ((q_2 0), .inl ((kk_3 0), 25, .inl (fun _ => 0))), ((q_2 1), .inl ((kk_3 1), 275, .inl (fun _ => 0))), (q_5, .inl (k_6, 24, .inl (fun _ => 0))), (q_7, .inl (k_8, 24, .inl (fun _ => 0))), (q_9, .inl (k_10, 24, .inr (.inl (fun _ => 0)))), (q_11, .inl (k_12, 25, .inl (fun _ => 0)))]) hP hD
  have hP9 := hP.sub (ws' := [(h0, .inr (1, [.ref q_1, .ref q_5, .ref q_7, .ref q_9, .ref q_11, .int 0, .int 0])), (q_5, .inl (k_6, 24, .inl (fun _ => 0))), (q_7, .inl (k_8, 24, .inl (fun _ => 0))), (q_9, .inl (k_10, 24, .inr (.inl (fun _ => 0)))), (q_11, .inl (k_12, 25, .inl (fun _ => 0))), (q_1, .inr (3, [.int 0, .int 0, .int 0, .ref (q_2 0), .ref (q_2 1)])), ((q_2 0), .inl ((kk_3 0), 25, .inl (fun _ => 0))), ((q_2 1), .inl ((kk_3 1), 275, .inl (fun _ => 0)))]) [0, 4, 5, 6, 7, 1, 2, 3] rfl
  have hD9 := hD.sub (ws' := [(h0, .inr (1, [.ref q_1, .ref q_5, .ref q_7, .ref q_9, .ref q_11, .int 0, .int 0])), (q_5, .inl (k_6, 24, .inl (fun _ => 0))), (q_7, .inl (k_8, 24, .inl (fun _ => 0))), (q_9, .inl (k_10, 24, .inr (.inl (fun _ => 0)))), (q_11, .inl (k_12, 25, .inl (fun _ => 0))), (q_1, .inr (3, [.int 0, .int 0, .int 0, .ref (q_2 0), .ref (q_2 1)])), ((q_2 0), .inl ((kk_3 0), 25, .inl (fun _ => 0))), ((q_2 1), .inl ((kk_3 1), 275, .inl (fun _ => 0)))]) [0, 4, 5, 6, 7, 1, 2, 3] (by decide +kernel) rfl
  have hK9 := hK.sub (tys' := [(k_6, .int), (k_8, .int), (k_10, .long), (k_12, .int), ((kk_3 0), .int), ((kk_3 1), .int)]) [2, 3, 4, 5, 0, 1] rfl
  exact W.vret hx hb hr (fun t ht hW => ⟨⟨(), rfl, trivial, (fun n => [q_1, (q_2 0), (q_2 1), q_5, q_7, q_9, q_11].getD n 0), (fun n => [(kk_3 0), (kk_3 1), k_6, k_8, k_10, k_12].getD n (kk_3 0)), by rw [ht]; exact hP9, va_K.moved hW.alike hK9, hD9⟩, hS.F ht⟩) hS.2.2 (dk_at dkX1_init 29 rfl)
