def ld (b : Nat → Nat) (v : Nat) : Int32 := nI (b (v + 1)) - nI (b v)
def lA (b : Nat → Nat) (v : Nat) : Int32 := if ld b v = (30 : Int32) then (51 : Int32) else (50 : Int32)
def lC (b : Nat → Nat) (v : Nat) : Int32 := if ld b v = (30 : Int32) then (48 : Int32) else (57 : Int32)
def tW (v w : Nat) : Nat := if v = 0 then w else w + 1
def tO (v w : Nat) (o : Nat → Int32) : Nat → Int32 := if v = 0 then o else upd o w (32 : Int32)
def tF (b : Nat → Nat) : Nat → Nat → Nat → (Nat → Int32) → Nat × (Nat → Int32)
  | 0, _, w, o => (w, o)
  | k + 1, v, w, o => tF b k (v + 1) (tW v w + 2) (upd (upd (tO v w o) (tW v w) (lA b v)) (tW v w + 1) (lC b v))
theorem upd_2 {f g : Nat → Int32} {i k : Nat} {x : Int32} (h : ¬ k = i → f k = g k) : upd f i x k = upd g i x k := by
  unfold upd
  by_cases c : k = i
  · rw [if_pos c, if_pos c]
  · rw [if_neg c, if_neg c]
    exact h c
theorem tF_same (b : Nat → Nat) : ∀ (k v w : Nat) (o o' : Nat → Int32), (∀ j, j < w → o j = o' j) → (tF b k v w o).1 = (tF b k v w o').1 ∧ ∀ j, j < (tF b k v w o).1 → (tF b k v w o).2 j = (tF b k v w o').2 j := by
  intro k
  induction k with
  | zero => intro v w o o' h; exact ⟨rfl, h⟩
  | succ k ih =>
    intro v w o o' h
    rw [tF, tF]
    refine ih _ _ _ _ (fun j hj => upd_2 (fun c1 => upd_2 (fun c2 => ?_)))
    unfold tO
    unfold tW at hj c1 c2
    by_cases c : v = 0
    · rw [if_pos c, if_pos c]
      rw [if_pos c] at hj c1 c2
      exact h j (by omega)
    · rw [if_neg c, if_neg c]
      rw [if_neg c] at hj c1 c2
      exact upd_2 (fun c3 => h j (by omega))
theorem tF_le (b : Nat → Nat) : ∀ (k v w : Nat) (o : Nat → Int32), w ≤ 3 * v → (tF b k v w o).1 ≤ 3 * (v + k) := by
  intro k
  induction k with
  | zero => intro v w o h; exact h
  | succ k ih =>
    intro v w o h
    rw [tF]
    have := ih (v + 1) (tW v w + 2) (upd (upd (tO v w o) (tW v w) (lA b v)) (tW v w + 1) (lC b v)) (by unfold tW; split <;> omega)
    omega
theorem po_eq {w : Nat} {o : Nat → Int32} {s : Int32} (hw : w < 72) (hs : vp_nar .byte (s.toInt8.toInt32) = s) : fX11_putOut (nI w) o s = (nI (w + 1), upd o w s) := by
  unfold fX11_putOut bfX11_putOut_33
  rw [if_neg (fun q => by have := i32le.mp q; rw [nI_toInt (by omega), show (72 : Int32).toInt = 72 by decide] at this; omega), nI_clamp (by omega), nI_1, hs]
theorem bt32 : vp_nar .byte ((32 : Int32).toInt8.toInt32) = (32 : Int32) := by rw [vp_nar_byte]; decide
theorem bt48 : vp_nar .byte ((48 : Int32).toInt8.toInt32) = (48 : Int32) := by rw [vp_nar_byte]; decide
theorem bt50 : vp_nar .byte ((50 : Int32).toInt8.toInt32) = (50 : Int32) := by rw [vp_nar_byte]; decide
theorem bt51 : vp_nar .byte ((51 : Int32).toInt8.toInt32) = (51 : Int32) := by rw [vp_nar_byte]; decide
theorem bt57 : vp_nar .byte ((57 : Int32).toInt8.toInt32) = (57 : Int32) := by rw [vp_nar_byte]; decide
theorem te_s (x_outLength : Int32) (x_courtStands : Int32) (x_courtNews : Int32) (x_tallyStands : Int32) (c_queueLength : Int32) (c_takenBits : Int32) (fve : Nat → Int32) (fqu : Nat → Int32) (ftu : Nat → Int64) (fcb : Nat → Int32) (fmonths : Int32) (ffull : Int32) (flean : Int32) (ffal : Nat → Int32) (ffon : Nat → Int32) (fxo : Nat → Int32) (amonths : Int32) (afull : Int32) (alean : Int32) (ahasMoon : Int32) (amoonStart : Int32) (amoonStep : Int32) (areportCount : Int32) (p_name : Nat → Int32) (p_trust : Nat → Int32) (r_place : Nat → Int32) (r_kind : Nat → Int32) (r_month : Nat → Int32) (r_day : Nat → Int32) (r_known : Nat → Int32) (r_struck : Nat → Int32) (p1 : Int32) (z : Nat) (v3 : Int32) (w0_11 : Int32) (w0_12 : Int32) (w0_13 : Int32) (w0_14 : Int32) (w1_5 : Int32) (w1_6 : Int32) (w6_0 : Int32) (w6_1 : Int32) (w6_2 : Int32) (z2 : Nat → Int32) (z3 : Nat → Int32) (z4 : Nat → Int64) (z5 : Nat → Int32) (z7 : Nat → Int32) (z8 : Nat → Int32) (z9 : Nat → Int32) : lfX11_tell x_outLength x_courtStands x_courtNews x_tallyStands c_queueLength c_takenBits fve fqu ftu fcb fmonths ffull flean ffal ffon fxo amonths afull alean ahasMoon amoonStart amoonStep areportCount p_name p_trust r_place r_kind r_month r_day r_known r_struck p1 (z + 1) v3 w0_11 w0_12 w0_13 w0_14 w1_5 w1_6 w6_0 w6_1 w6_2 z2 z3 z4 z5 z7 z8 z9 = dfX11_tell_24 x_outLength x_courtStands x_courtNews x_tallyStands c_queueLength c_takenBits fve fqu ftu fcb fmonths ffull flean ffal ffon fxo amonths afull alean ahasMoon amoonStart amoonStep areportCount p_name p_trust r_place r_kind r_month r_day r_known r_struck p1 (lfX11_tell x_outLength x_courtStands x_courtNews x_tallyStands c_queueLength c_takenBits fve fqu ftu fcb fmonths ffull flean ffal ffon fxo amonths afull alean ahasMoon amoonStart amoonStep areportCount p_name p_trust r_place r_kind r_month r_day r_known r_struck p1 z) v3 w0_11 w0_12 w0_13 w0_14 w1_5 w1_6 w6_0 w6_1 w6_2 z2 z3 z4 z5 z7 z8 z9 := rfl
theorem tlm_s (mi : Nat → Int32) (fm_must : Nat → Int32) (fm_least : Nat → Int32) (fm_pin : Nat → Int32) (fm_ways : Nat → Int32) (fm_verdict : Nat → Int32) (fm_row : Nat → Int32) (fm_struck : Nat → Int32) (fm_reportKnown : Nat → Int32) (fm_reportPlace : Nat → Int32) (fm_reportMonth : Nat → Int32) (fm_reportDay : Nat → Int32) (fm_reportKind : Nat → Int32) (fm_trust : Nat → Int32) (fm_letter : Nat → Int32) (fm_official : Nat → Int32) (fm_out : Nat → Int32) (p1 : Int32) (z : Nat) (v2 : Int32) (w0_37 : Int32) (w0_41 : Int32) (w0_56 : Int32) (z1 : Nat → Int32) (z2 : Nat → Int32) (z3 : Nat → Int32) (z4 : Nat → Int32) (z5 : Nat → Int32) (z6 : Nat → Int32) (z15 : Nat → Int32) (z16 : Nat → Int32) : lfX12_tell mi fm_must fm_least fm_pin fm_ways fm_verdict fm_row fm_struck fm_reportKnown fm_reportPlace fm_reportMonth fm_reportDay fm_reportKind fm_trust fm_letter fm_official fm_out p1 (z + 1) v2 w0_37 w0_41 w0_56 z1 z2 z3 z4 z5 z6 z15 z16 = dfX12_tell_23 mi fm_must fm_least fm_pin fm_ways fm_verdict fm_row fm_struck fm_reportKnown fm_reportPlace fm_reportMonth fm_reportDay fm_reportKind fm_trust fm_letter fm_official fm_out p1 (lfX12_tell mi fm_must fm_least fm_pin fm_ways fm_verdict fm_row fm_struck fm_reportKnown fm_reportPlace fm_reportMonth fm_reportDay fm_reportKind fm_trust fm_letter fm_official fm_out p1 z) v2 w0_37 w0_41 w0_56 z1 z2 z3 z4 z5 z6 z15 z16 := rfl
theorem te_1 {x_outLength : Int32} {x_courtStands : Int32} {x_courtNews : Int32} {x_tallyStands : Int32} {c_queueLength : Int32} {c_takenBits : Int32} {fve : Nat → Int32} {fqu : Nat → Int32} {ftu : Nat → Int64} {fcb : Nat → Int32} {fmonths : Int32} {ffull : Int32} {flean : Int32} {ffal : Nat → Int32} {ffon : Nat → Int32} {fxo : Nat → Int32} {amonths : Int32} {afull : Int32} {alean : Int32} {ahasMoon : Int32} {amoonStart : Int32} {amoonStep : Int32} {areportCount : Int32} {p_name : Nat → Int32} {p_trust : Nat → Int32} {r_place : Nat → Int32} {r_kind : Nat → Int32} {r_month : Nat → Int32} {r_day : Nat → Int32} {r_known : Nat → Int32} {r_struck : Nat → Int32} {p1 : Int32} {K : (Int32 → Int32 → Int32 → Int32 → Int32 → Int32 → Int32 → Int32 → Int32 → Int32 → (Nat → Int32) → (Nat → Int32) → (Nat → Int64) → (Nat → Int32) → (Nat → Int32) → (Nat → Int32) → (Nat → Int32) → (Int32 × Int32 × Int32 × Int32 × Int32 × Int32 × Int32 × Int32 × Int32 × Int32 × (Nat → Int32) × (Nat → Int32) × (Nat → Int64) × (Nat → Int32) × (Nat → Int32) × (Nat → Int32) × (Nat → Int32)))} {w0_12 : Int32} {w0_13 : Int32} {w0_14 : Int32} {w1_5 : Int32} {w1_6 : Int32} {w6_0 : Int32} {w6_1 : Int32} {w6_2 : Int32} {z2 : Nat → Int32} {z3 : Nat → Int32} {z4 : Nat → Int64} {z5 : Nat → Int32} {z7 : Nat → Int32} {z8 : Nat → Int32} {i w : Nat} {o : Nat → Int32} {b : Nat → Nat} (hw : w ≤ 70) (hi : i ≤ 23) (h1 : z5 i = nI (b i)) (h2 : z5 (i + 1) = nI (b (i + 1))) : bfX11_tell_45 x_outLength x_courtStands x_courtNews x_tallyStands c_queueLength c_takenBits fve fqu ftu fcb fmonths ffull flean ffal ffon fxo amonths afull alean ahasMoon amoonStart amoonStep areportCount p_name p_trust r_place r_kind r_month r_day r_known r_struck p1 K (nI i) (nI w) w0_12 w0_13 w0_14 w1_5 w1_6 w6_0 w6_1 w6_2 z2 z3 z4 z5 z7 z8 o = K (nI (i + 1)) (nI (w + 2)) w0_12 w0_13 w0_14 w1_5 w1_6 w6_0 w6_1 w6_2 z2 z3 z4 z5 z7 z8 (upd (upd o w (lA b i)) (w + 1) (lC b i)) := by
  have hl : fX1_lengthOf z5 (nI i) = ld b i := by
    unfold fX1_lengthOf ld
    rw [nI_1, nI_clamp (by omega), nI_clamp (by omega), h1, h2]
  unfold bfX11_tell_45 lA lC
  rw [cal_b, hl]
  by_cases c : ld b i = (30 : Int32)
  · rw [if_pos c, if_pos c, if_pos c]
    unfold bfX11_tell_60
    rw [if_neg (by decide)]
    unfold bfX11_tell_75
    rw [cal_b, po_eq (by omega) bt51, if_neg (by decide)]
    unfold bfX11_tell_91
    dsimp only
    rw [cal_b, po_eq (by omega) bt48, nI_1]
  · rw [if_neg c, if_neg c, if_neg c]
    unfold bfX11_tell_60
    rw [if_pos rfl]
    unfold bfX11_tell_75
    rw [cal_b, po_eq (by omega) bt50, if_pos rfl]
    unfold bfX11_tell_91
    dsimp only
    rw [cal_b, po_eq (by omega) bt57, nI_1]
theorem te_L {x_outLength : Int32} {x_courtStands : Int32} {x_courtNews : Int32} {x_tallyStands : Int32} {c_queueLength : Int32} {c_takenBits : Int32} {fve : Nat → Int32} {fqu : Nat → Int32} {ftu : Nat → Int64} {fcb : Nat → Int32} {fmonths : Int32} {ffull : Int32} {flean : Int32} {ffal : Nat → Int32} {ffon : Nat → Int32} {fxo : Nat → Int32} {amonths : Int32} {afull : Int32} {alean : Int32} {ahasMoon : Int32} {amoonStart : Int32} {amoonStep : Int32} {areportCount : Int32} {p_name : Nat → Int32} {p_trust : Nat → Int32} {r_place : Nat → Int32} {r_kind : Nat → Int32} {r_month : Nat → Int32} {r_day : Nat → Int32} {r_known : Nat → Int32} {r_struck : Nat → Int32} {p1 : Int32} {w0_12 : Int32} {w0_13 : Int32} {w0_14 : Int32} {w1_5 : Int32} {w1_6 : Int32} {w6_0 : Int32} {w6_1 : Int32} {w6_2 : Int32} {z2 : Nat → Int32} {z3 : Nat → Int32} {z4 : Nat → Int64} {z5 : Nat → Int32} {z7 : Nat → Int32} {z8 : Nat → Int32} {M : Nat} {b : Nat → Nat} (hM : M ≤ 24) (hm : amonths = nI M) (hb : ∀ j, j ≤ M → z5 j = nI (b j)) : ∀ (k i z w : Nat) (o : Nat → Int32), i + k = M → k < z → w ≤ 3 * i → lfX11_tell x_outLength x_courtStands x_courtNews x_tallyStands c_queueLength c_takenBits fve fqu ftu fcb fmonths ffull flean ffal ffon fxo amonths afull alean ahasMoon amoonStart amoonStep areportCount p_name p_trust r_place r_kind r_month r_day r_known r_struck p1 z (nI i) (nI w) w0_12 w0_13 w0_14 w1_5 w1_6 w6_0 w6_1 w6_2 z2 z3 z4 z5 z7 z8 o = (nI (tF b k i w o).1, nI (tF b k i w o).1, w0_12, w0_13, w0_14, w1_5, w1_6, w6_0, w6_1, w6_2, z2, z3, z4, z5, z7, z8, (tF b k i w o).2) := by
  intro k
  induction k with
  | zero =>
    intro i z w o hi hz hw
    obtain ⟨z, rfl⟩ : ∃ y, z = y + 1 := ⟨z - 1, by omega⟩
    have e : i = M := by omega
    subst e
    rw [te_s]
    unfold dfX11_tell_24
    rw [if_pos (by rw [hm]; exact Int32.le_refl _), tF]
  | succ k ih =>
    intro i z w o hi hz hw
    obtain ⟨z, rfl⟩ : ∃ y, z = y + 1 := ⟨z - 1, by omega⟩
    rw [te_s]
    unfold dfX11_tell_24
    rw [if_neg (fun q => by rw [hm] at q; have := (nI_leI (by omega) (by omega)).1 q; omega), tF]
    by_cases c : i = 0
    · subst c
      rw [if_pos (by rw [nI_0]; exact Int32.le_refl _), te_1 (b := b) (by omega) (by omega) (hb 0 (by omega)) (hb (0 + 1) (by omega)), ih (0 + 1) z (w + 2) _ (by omega) (by omega) (by omega)]
      rfl
    · rw [if_neg (fun q => by have := i32le.mp q; rw [nI_toInt (by omega), z32] at this; omega), cal_b, po_eq (by omega) bt32]
      dsimp only
      rw [te_1 (b := b) (by omega) (by omega) (hb i (by omega)) (hb (i + 1) (by omega)), ih (i + 1) z (w + 1 + 2) _ (by omega) (by omega) (by omega)]
      unfold tW tO
      rw [if_neg c, if_neg c]
theorem tlm_1 {mi : Nat → Int32} {fm_must : Nat → Int32} {fm_least : Nat → Int32} {fm_pin : Nat → Int32} {fm_ways : Nat → Int32} {fm_verdict : Nat → Int32} {fm_row : Nat → Int32} {fm_struck : Nat → Int32} {fm_reportKnown : Nat → Int32} {fm_reportPlace : Nat → Int32} {fm_reportMonth : Nat → Int32} {fm_reportDay : Nat → Int32} {fm_reportKind : Nat → Int32} {fm_trust : Nat → Int32} {fm_letter : Nat → Int32} {fm_official : Nat → Int32} {fm_out : Nat → Int32} {p1 : Int32} {K : (Int32 → Int32 → Int32 → Int32 → (Nat → Int32) → (Nat → Int32) → (Nat → Int32) → (Nat → Int32) → (Nat → Int32) → (Nat → Int32) → (Nat → Int32) → (Nat → Int32) → (Int32 × Int32 × Int32 × Int32 × (Nat → Int32) × (Nat → Int32) × (Nat → Int32) × (Nat → Int32) × (Nat → Int32) × (Nat → Int32) × (Nat → Int32) × (Nat → Int32)))} {w0_37 : Int32} {w0_41 : Int32} {z1 : Nat → Int32} {z2 : Nat → Int32} {z3 : Nat → Int32} {z4 : Nat → Int32} {z5 : Nat → Int32} {z6 : Nat → Int32} {z15 : Nat → Int32} {i w : Nat} {o : Nat → Int32} {b : Nat → Nat} (hw : w ≤ 70) (hi : i ≤ 23) (h1 : z15 i = nI (b i)) (h2 : z15 (i + 1) = nI (b (i + 1))) : bfX12_tell_56 mi fm_must fm_least fm_pin fm_ways fm_verdict fm_row fm_struck fm_reportKnown fm_reportPlace fm_reportMonth fm_reportDay fm_reportKind fm_trust fm_letter fm_official fm_out p1 K (nI i) w0_37 w0_41 (nI w) z1 z2 z3 z4 z5 z6 z15 o = K (nI (i + 1)) w0_37 w0_41 (nI (w + 2)) z1 z2 z3 z4 z5 z6 z15 (upd (upd o w (lA b i)) (w + 1) (lC b i)) := by
  have hl : fX12_lengthBy z15 (nI i) = ld b i := by
    unfold fX12_lengthBy ld
    rw [nI_1, nI_clamp (by omega), nI_clamp (by omega), h1, h2]
  have e2 : nI w + (2 : Int32) = nI (w + 2) := nI_add w 2
  unfold bfX12_tell_56 lA lC
  rw [cal_b, hl]
  by_cases c : ld b i = (30 : Int32)
  · rw [if_pos c, if_pos c, if_pos c]
    unfold bfX12_tell_81
    rw [cal_b, hl, if_pos c]
    unfold bfX12_tell_109
    rw [nI_1, nI_1, nI_clamp (by omega), nI_clamp (by omega), e2]
  · rw [if_neg c, if_neg c, if_neg c]
    unfold bfX12_tell_81
    rw [cal_b, hl, if_neg c]
    unfold bfX12_tell_109
    rw [nI_1, nI_1, nI_clamp (by omega), nI_clamp (by omega), e2]
theorem tlm_L {mi : Nat → Int32} {fm_must : Nat → Int32} {fm_least : Nat → Int32} {fm_pin : Nat → Int32} {fm_ways : Nat → Int32} {fm_verdict : Nat → Int32} {fm_row : Nat → Int32} {fm_struck : Nat → Int32} {fm_reportKnown : Nat → Int32} {fm_reportPlace : Nat → Int32} {fm_reportMonth : Nat → Int32} {fm_reportDay : Nat → Int32} {fm_reportKind : Nat → Int32} {fm_trust : Nat → Int32} {fm_letter : Nat → Int32} {fm_official : Nat → Int32} {fm_out : Nat → Int32} {p1 : Int32} {w0_37 : Int32} {w0_41 : Int32} {z1 : Nat → Int32} {z2 : Nat → Int32} {z3 : Nat → Int32} {z4 : Nat → Int32} {z5 : Nat → Int32} {z6 : Nat → Int32} {z15 : Nat → Int32} {M : Nat} {b : Nat → Nat} (hM : M ≤ 24) (hm : mi 0 = nI M) (hb : ∀ j, j ≤ M → z15 j = nI (b j)) : ∀ (k i z w : Nat) (o : Nat → Int32), i + k = M → k < z → w ≤ 3 * i → lfX12_tell mi fm_must fm_least fm_pin fm_ways fm_verdict fm_row fm_struck fm_reportKnown fm_reportPlace fm_reportMonth fm_reportDay fm_reportKind fm_trust fm_letter fm_official fm_out p1 z (nI i) w0_37 w0_41 (nI w) z1 z2 z3 z4 z5 z6 z15 o = (nI (tF b k i w o).1, w0_37, w0_41, nI (tF b k i w o).1, z1, z2, z3, z4, z5, z6, z15, (tF b k i w o).2) := by
  intro k
  induction k with
  | zero =>
    intro i z w o hi hz hw
    obtain ⟨z, rfl⟩ : ∃ y, z = y + 1 := ⟨z - 1, by omega⟩
    have e : i = M := by omega
    subst e
    rw [tlm_s]
    unfold dfX12_tell_23
    rw [if_pos (by rw [hm]; exact Int32.le_refl _), tF]
  | succ k ih =>
    intro i z w o hi hz hw
    obtain ⟨z, rfl⟩ : ∃ y, z = y + 1 := ⟨z - 1, by omega⟩
    rw [tlm_s]
    unfold dfX12_tell_23
    rw [if_neg (fun q => by rw [hm] at q; have := (nI_leI (by omega) (by omega)).1 q; omega), tF]
    by_cases c : i = 0
    · subst c
      rw [if_pos (by rw [nI_0]; exact Int32.le_refl _), tlm_1 (b := b) (by omega) (by omega) (hb 0 (by omega)) (hb (0 + 1) (by omega)), ih (0 + 1) z (w + 2) _ (by omega) (by omega) (by omega)]
      rfl
    · rw [if_neg (fun q => by have := i32le.mp q; rw [nI_toInt (by omega), z32] at this; omega), nI_1, nI_clamp (by omega), tlm_1 (b := b) (by omega) (by omega) (hb i (by omega)) (hb (i + 1) (by omega)), ih (i + 1) z (w + 1 + 2) _ (by omega) (by omega) (by omega)]
      unfold tW tO
      rw [if_neg c, if_neg c]
theorem r3_tell {vx : Nat → Int32} {fx : Nat → Nat → Int32} {gx : Nat → Nat → Int64} {mi : Nat → Int32} {fm : Nat → Nat → Int32} (hM : MIp mi fm) (h : REL3 vx fx mi fm) {r r2 : Int32} {v : Nat → Int32} {f : Nat → Nat → Int32} {g : Nat → Nat → Int64} {mi2 : Nat → Int32} {fm2 : Nat → Nat → Int32} {p1 : Int32} (hx : (r, v, f, g) = xs_tell vx fx gx p1) (hm : (r2, mi2, fm2) = ms_tell mi fm p1) : REL3 v f mi2 fm2 ∧ r = r2 := by
  obtain ⟨t1, t2⟩ := tm_of h p1
  obtain ⟨O, hO⟩ : ∃ O, O = fX11_tell (vx 0) (vx 1) (vx 2) (vx 3) (vx 44) (vx 45) (fx 3) (fx 4) (gx 0) (fx 5) (vx 46) (vx 47) (vx 48) (fx 6) (fx 7) (fx 21) (vx 11) (vx 12) (vx 13) (vx 15) (vx 16) (vx 17) (vx 19) (fx 22) (fx 23) (fx 24) (fx 25) (fx 26) (fx 27) (fx 28) (fx 29) p1 := ⟨_, rfl⟩
  obtain ⟨U, hU⟩ : ∃ U, U = fX12_tell mi (fm 14) (fm 15) (fm 16) (fm 17) (fm 18) (fm 19) (fm 4) (fm 7) (fm 2) (fm 5) (fm 6) (fm 3) (fm 0) (fm 1) (fm 20) (fm 23) p1 := ⟨_, rfl⟩
  unfold xs_tell at hx
  unfold ms_tell at hm
  rw [← hO] at hx
  rw [← hU] at hm
  unfold xt_tell at hx
  unfold mt_tell at hm
  simp only [Prod.mk.injEq] at hx hm
  obtain ⟨rfl, rfl, rfl, rfl⟩ := hx
  obtain ⟨rfl, rfl, rfl⟩ := hm
  have hfin : ∀ s : Int32, O.1 = s → U.1 = s → (O.2.1 = U.2.2.2.1 ∧ ∀ j : Nat, (j : Int) < (O.2.1).toInt → O.2.2.2.2.2.2.2.2.2.2.2.2.2.2.2.2 j = U.2.2.2.2.2.2.2.2.2.2.2 j) → CI (aF vx) (aL vx) (aM vx) (aN vx) (vx 15) (vx 16) (vx 17) (nf (fx 25)) (nf (fx 26)) (nf (fx 27)) (aLT fx) (fx 28) (fx 29) O.2.2.1 O.2.2.2.1 O.2.2.2.2.2.1 O.2.2.2.2.2.2.1 O.2.2.2.2.2.2.2.1 O.2.2.2.2.2.2.2.2.1 O.2.2.2.2.2.2.2.2.2.1 O.2.2.2.2.2.2.2.2.2.2.1 O.2.2.2.2.2.2.2.2.2.2.2.1 O.2.2.2.2.2.2.2.2.2.2.2.2.2.1 O.2.2.2.2.2.2.2.2.2.2.2.2.2.2.1 O.2.2.2.2.2.2.2.2.2.2.2.2.2.2.2.1 → REL3 (upd (upd (upd (upd (upd (upd (upd (upd (upd vx 0 O.2.1) 1 O.2.2.1) 2 O.2.2.2.1) 3 O.2.2.2.2.1) 44 O.2.2.2.2.2.1) 45 O.2.2.2.2.2.2.1) 46 O.2.2.2.2.2.2.2.1) 47 O.2.2.2.2.2.2.2.2.1) 48 O.2.2.2.2.2.2.2.2.2.1) (updF (updF (updF (updF (updF (updF fx 3 O.2.2.2.2.2.2.2.2.2.2.1) 4 O.2.2.2.2.2.2.2.2.2.2.2.1) 5 O.2.2.2.2.2.2.2.2.2.2.2.2.2.1) 6 O.2.2.2.2.2.2.2.2.2.2.2.2.2.2.1) 7 O.2.2.2.2.2.2.2.2.2.2.2.2.2.2.2.1) 21 O.2.2.2.2.2.2.2.2.2.2.2.2.2.2.2.2) (upd (upd (upd mi 37 U.2.1) 41 U.2.2.1) 56 U.2.2.2.1) (updF (updF (updF (updF (updF (updF (updF (updF fm 14 U.2.2.2.2.1) 15 U.2.2.2.2.2.1) 16 U.2.2.2.2.2.2.1) 17 U.2.2.2.2.2.2.2.1) 18 U.2.2.2.2.2.2.2.2.1) 19 U.2.2.2.2.2.2.2.2.2.1) 20 U.2.2.2.2.2.2.2.2.2.2.1) 23 U.2.2.2.2.2.2.2.2.2.2.2) ∧ O.1 = U.1 := by
    intro s s1 s2 hOU hC
    refine ⟨r3_keepG h (fun k h1 h2 => ?_) rfl (fun k h1 h2 => ?_) (fun k hk => ?_) ⟨rfl, rfl, rfl⟩ (fun k hk => ?_) h.2.2.2.1 hOU (hi_keep h.2.2.2.2.2.2 (fun k h1 h2 => ?_) (fun k h1 h2 => ?_) ⟨rfl, rfl, rfl, rfl⟩) hC, s1.trans s2.symm⟩
    · repeat rw [upd_ne (by omega)]
    · repeat rw [updF_ne (by omega)]
    · repeat rw [upd_ne (by omega)]
    · repeat rw [updF_ne (by omega)]
    · repeat rw [upd_ne (by omega)]
    · repeat rw [updF_ne (by omega)]
  unfold fX11_tell at hO
  unfold fX12_tell at hU
  obtain ⟨o1, e1, hO⟩ := cal_out hO
  obtain ⟨u1, f1, hU⟩ := cal_out hU
  rw [t1, ← f1] at e1
  rw [← f1] at t2
  rcases t2 with t2 | ⟨t2, n3, _, _⟩
  · rw [if_pos (e1.trans t2)] at hO
    rw [if_pos t2] at hU
    refine hfin (-2) (by rw [hO]) (by rw [hU]) ?_ ?_
    · rw [hO, hU]
      exact h.2.2.2.2.2.1
    · rw [hO]
      exact h.2.2.2.2.1
  rw [if_neg (by rw [e1, t2]; decide)] at hO
  rw [if_neg (by rw [t2]; decide)] at hU
  obtain ⟨o2, e2, hO⟩ := cal_out hO
  obtain ⟨hCT, hCI⟩ := cq_of hM h n3 p1 e2
  obtain ⟨u2, f2, hU⟩ := cal_out hU
  obtain ⟨must, least, pin, ways, ve, row, of, rmn, g1, g2, g3⟩ := qo_of hM h n3 mi (fun _ _ => rfl) ⟨rfl, rfl, rfl⟩ (fm 14) (fm 15) (fm 16) (fm 17) (fm 18) (fm 19) (fm 20) p1
  rw [g1] at f2
  subst f2
  dsimp only at hU
  obtain ⟨⟨q1, _⟩, ⟨_, d2, _⟩, _⟩ := ad_of hM h n3
  obtain ⟨k0, _⟩ := rd_of hM h n3
  have hO := hO.trans (te_L (M := aM vx) (b := aBg vx fx p1) d2 q1 hCT.2.2.2.2.2.2.2.1 (aM vx) 0 1000000000 0 (fx 21) (by omega) (by omega) (by omega))
  have hU := hU.trans (tlm_L (M := aM vx) (b := aBg vx fx p1) d2 k0 g3 (aM vx) 0 1000000000 0 (fm 23) (by omega) (by omega) (by omega))
  obtain ⟨s1, s2⟩ := tF_same (aBg vx fx p1) (aM vx) 0 0 (fx 21) (fm 23) (fun j hj => absurd hj (by omega))
  have s3 := tF_le (aBg vx fx p1) (aM vx) 0 0 (fx 21) (by omega)
  rw [← s1] at hU
  refine hfin (nI (tF (aBg vx fx p1) (aM vx) 0 0 (fx 21)).1) (by rw [hO]) (by rw [hU]) ?_ ?_
  · rw [hO, hU]
    refine ⟨rfl, fun j hj => s2 j ?_⟩
    have hj : (j : Int) < (nI (tF (aBg vx fx p1) (aM vx) 0 0 (fx 21)).1).toInt := hj
    rw [nI_toInt (by omega)] at hj
    omega
  · rw [hO]
    exact hCI
noncomputable abbrev bgA (F L M n : Nat) (hm ms mp : Int32) (kd mo dy : Nat → Nat) (lt : Nat → Nat → Bool) (rn rs : Nat → Int32) (t : Int32) (m : Nat) : Nat := 29 * m + (ofs F L M (jd F L M hm ms mp kd mo dy (lin lt (kC rn rs t) n)).1 m).1
def hE (n : Nat) (rn rs : Nat → Int32) (B : Int32 → Nat → Nat) (M e : Nat) (si be : Nat → Int32) : Prop := ∀ e', e' < e → (tE n rn rs e').toInt ≤ 999 ∧ si e' = tE n rn rs e' ∧ ∀ m, m ≤ M → be (25 * e' + m) = nI (B (tE n rn rs e') m)
theorem tE_s (n : Nat) (rn rs : Nat → Int32) (e : Nat) : tE n rn rs (e + 1) = fX0_newsBehind (nI n) rn rs (tE n rn rs e) := rfl
theorem hE_s {n : Nat} {rn rs : Nat → Int32} {B : Int32 → Nat → Nat} {M e : Nat} {si be bg : Nat → Int32} (hM : M ≤ 24) (h : hE n rn rs B M e si be) (h1 : (tE n rn rs e).toInt ≤ 999) (h2 : ∀ m, m ≤ M → bg m = nI (B (tE n rn rs e) m)) : hE n rn rs B M (e + 1) (upd si e (tE n rn rs e)) (va_cpy bg be 0 (25 * e) 25) := by
  intro e' he
  by_cases c : e' = e
  · subst c
    refine ⟨h1, if_pos rfl, fun m hm => ?_⟩
    show (if 25 * e' ≤ 25 * e' + m ∧ 25 * e' + m < 25 * e' + 25 then bg (0 + (25 * e' + m - 25 * e')) else _) = _
    rw [if_pos ⟨by omega, by omega⟩, show 0 + (25 * e' + m - 25 * e') = m by omega]
    exact h2 m hm
  · obtain ⟨a1, a2, a3⟩ := h e' (by omega)
    refine ⟨a1, (if_neg c).trans a2, fun m hm => ?_⟩
    show (if 25 * e ≤ 25 * e' + m ∧ 25 * e' + m < 25 * e + 25 then _ else be (25 * e' + m)) = _
    rw [if_neg (by omega)]
    exact a3 m hm
theorem hf_s (fhsi : Nat → Int32) (fhbe : Nat → Int32) (o_queueLength : Int32) (o_takenBits : Int32) (fove : Nat → Int32) (foqu : Nat → Int32) (fotu : Nat → Int64) (focb : Nat → Int32) (of_months : Int32) (of_full : Int32) (of_lean : Int32) (fofal : Nat → Int32) (fofon : Nat → Int32) (amonths : Int32) (afull : Int32) (alean : Int32) (ahasMoon : Int32) (amoonStart : Int32) (amoonStep : Int32) (areportCount : Int32) (p_name : Nat → Int32) (p_trust : Nat → Int32) (r_place : Nat → Int32) (r_kind : Nat → Int32) (r_month : Nat → Int32) (r_day : Nat → Int32) (r_known : Nat → Int32) (r_struck : Nat → Int32) (z : Nat) (v3 : Int32) (w0_2 : Int32) (w3_5 : Int32) (w3_6 : Int32) (w8_0 : Int32) (w8_1 : Int32) (w8_2 : Int32) (z1 : Nat → Int32) (z2 : Nat → Int32) (z4 : Nat → Int32) (z5 : Nat → Int32) (z6 : Nat → Int64) (z7 : Nat → Int32) (z9 : Nat → Int32) (z10 : Nat → Int32) : lfX4_fill fhsi fhbe o_queueLength o_takenBits fove foqu fotu focb of_months of_full of_lean fofal fofon amonths afull alean ahasMoon amoonStart amoonStep areportCount p_name p_trust r_place r_kind r_month r_day r_known r_struck (z + 1) v3 w0_2 w3_5 w3_6 w8_0 w8_1 w8_2 z1 z2 z4 z5 z6 z7 z9 z10 = dfX4_fill_7 fhsi fhbe o_queueLength o_takenBits fove foqu fotu focb of_months of_full of_lean fofal fofon amonths afull alean ahasMoon amoonStart amoonStep areportCount p_name p_trust r_place r_kind r_month r_day r_known r_struck (lfX4_fill fhsi fhbe o_queueLength o_takenBits fove foqu fotu focb of_months of_full of_lean fofal fofon amonths afull alean ahasMoon amoonStart amoonStep areportCount p_name p_trust r_place r_kind r_month r_day r_known r_struck z) v3 w0_2 w3_5 w3_6 w8_0 w8_1 w8_2 z1 z2 z4 z5 z6 z7 z9 z10 := rfl
theorem hf_L {fhsi : Nat → Int32} {fhbe : Nat → Int32} {o_queueLength : Int32} {o_takenBits : Int32} {fove : Nat → Int32} {foqu : Nat → Int32} {fotu : Nat → Int64} {focb : Nat → Int32} {of_months : Int32} {of_full : Int32} {of_lean : Int32} {fofal : Nat → Int32} {fofon : Nat → Int32} {amonths : Int32} {afull : Int32} {alean : Int32} {ahasMoon : Int32} {amoonStart : Int32} {amoonStep : Int32} {areportCount : Int32} {p_name : Nat → Int32} {p_trust : Nat → Int32} {r_place : Nat → Int32} {r_kind : Nat → Int32} {r_month : Nat → Int32} {r_day : Nat → Int32} {r_known : Nat → Int32} {r_struck : Nat → Int32} {M F L n m : Nat} {tr nm pl kd mo dy : Nat → Nat} (hD : AD M F L n m tr nm pl kd mo dy amonths afull alean areportCount p_name p_trust r_place r_kind r_month r_day r_known) : ∀ (k e z : Nat) (w3_5 : Int32) (w3_6 : Int32) (w8_0 : Int32) (w8_1 : Int32) (w8_2 : Int32) (z1 : Nat → Int32) (z2 : Nat → Int32) (z4 : Nat → Int32) (z5 : Nat → Int32) (z6 : Nat → Int64) (z7 : Nat → Int32) (z9 : Nat → Int32) (z10 : Nat → Int32), e + k = 25 → k < z → oZ z10 → hE n r_known r_struck (bgA F L M n ahasMoon amoonStart amoonStep kd mo dy (ltr tr nm pl mo dy kd) r_known r_struck) M e z1 z2 → ∃ (E : Nat) (ql tb a b c : Int32) (si be ve qu : Nat → Int32) (tu : Nat → Int64) (bg al on : Nat → Int32), lfX4_fill fhsi fhbe o_queueLength o_takenBits fove foqu fotu focb of_months of_full of_lean fofal fofon amonths afull alean ahasMoon amoonStart amoonStep areportCount p_name p_trust r_place r_kind r_month r_day r_known r_struck z (tE n r_known r_struck e) (nI e) w3_5 w3_6 w8_0 w8_1 w8_2 z1 z2 z4 z5 z6 z7 z9 z10 = (nI E, ql, tb, a, b, c, si, be, ve, qu, tu, bg, al, on) ∧ oZ on ∧ E ≤ 25 ∧ hE n r_known r_struck (bgA F L M n ahasMoon amoonStart amoonStep kd mo dy (ltr tr nm pl mo dy kd) r_known r_struck) M E si be ∧ (E = 25 ∨ ¬ (tE n r_known r_struck E).toInt ≤ 999) := by
  obtain ⟨⟨rfl, rfl, rfl, rfl⟩, ⟨b1, b2, b3, b4, b5, b6, b7, b8⟩, hW, hP, hR, hN⟩ := hD
  intro k
  induction k with
  | zero =>
    intro e z w3_5 w3_6 w8_0 w8_1 w8_2 z1 z2 z4 z5 z6 z7 z9 z10 hi hz hZ hh
    obtain ⟨z, rfl⟩ : ∃ y, z = y + 1 := ⟨z - 1, by omega⟩
    have e9 : e = 25 := by omega
    subst e9
    rw [hf_s]
    unfold dfX4_fill_7 bfX4_fill_79
    rw [if_pos (by decide)]
    exact ⟨25, _, _, _, _, _, _, _, _, _, _, _, _, _, rfl, hZ, by omega, hh, Or.inl rfl⟩
  | succ k ih =>
    intro e z w3_5 w3_6 w8_0 w8_1 w8_2 z1 z2 z4 z5 z6 z7 z9 z10 hi hz hZ hh
    obtain ⟨z, rfl⟩ : ∃ y, z = y + 1 := ⟨z - 1, by omega⟩
    rw [hf_s]
    unfold dfX4_fill_7 bfX4_fill_79
    rw [if_neg (fun q => by have := i32le.mp q; rw [nI_toInt (by omega), show (25 : Int32).toInt = 25 by decide] at this; omega)]
    by_cases c : (999 : Int32) < tE n r_known r_struck e
    · rw [if_pos c]
      have c := i32lt.mp c
      rw [show (999 : Int32).toInt = 999 by decide] at c
      exact ⟨e, _, _, _, _, _, _, _, _, _, _, _, _, _, rfl, hZ, by omega, hh, Or.inr (by omega)⟩
    · rw [if_neg c]
      have c1 : (tE n r_known r_struck e).toInt ≤ 999 := by
        have c2 : ¬ (999 : Int32).toInt < (tE n r_known r_struck e).toInt := fun q => c (i32lt.mpr q)
        rw [show (999 : Int32).toInt = 999 by decide] at c2
        omega
      obtain ⟨q1, q2, q3, q4, q5, q6, q7, q8, q9, q10, q11, e1, e2⟩ := cj_eq (hm := ahasMoon) (ms := amoonStart) (mp := amoonStep) (fve := z4) (fqu := z5) (fcb := z7) (ffal := z9) (ffon := z10) (ftu := z6) (t := tE n r_known r_struck e) (K := kC r_known r_struck (tE n r_known r_struck e)) hW b7 b8 (by omega) b2 b3 b5 b4 b6 hP hR (fun j hj => decide_eq_true_iff) hZ
      have e25 : (nI e * (25 : Int32)).toNatClampNeg = 25 * e := by
        rw [show (25 : Int32) = nI 25 from rfl, pk_mul, nI_clamp (by omega)]
        omega
      rw [cal_b, e1, cal_b]
      dsimp only
      rw [nI_1, ← tE_s, e25, nI_clamp (by omega)]
      exact ih (e + 1) z _ _ _ _ _ _ _ _ _ _ _ _ _ (by omega) (by omega) e2.2.2.2.2.2.2.2.2.2 (hE_s b2 hh c1 e2.2.2.2.2.2.2.2.1)
theorem hn_of {vx : Nat → Int32} {fx : Nat → Nat → Int32} {gx : Nat → Nat → Int64} {mi : Nat → Int32} {fm : Nat → Nat → Int32} (hM : MIp mi fm) (h : REL3 vx fx mi fm) (h3 : ¬ mi 3 = 0) : ∃ (hs er ql tb a b c : Int32) (si be ve qu : Nat → Int32) (tu : Nat → Int64) (bg al on : Nat → Int32), fX11_historyNow (vx 4) (vx 60) (fx 18) (fx 19) (vx 49) (vx 50) (fx 8) (fx 9) (gx 1) (fx 10) (vx 51) (vx 52) (vx 53) (fx 11) (fx 12) (vx 11) (vx 12) (vx 13) (vx 15) (vx 16) (vx 17) (vx 19) (fx 22) (fx 23) (fx 24) (fx 25) (fx 26) (fx 27) (fx 28) (fx 29) = (hs, er, ql, tb, a, b, c, si, be, ve, qu, tu, bg, al, on) ∧ oZ on ∧ HT vx fx er si be := by
  unfold fX11_historyNow bfX11_historyNow_27
  by_cases c : vx 4 = 0
  · rw [if_pos c, cal_b]
    obtain ⟨E, ql, tb, a, b, c, si, be, ve, qu, tu, bg, al, on, e1, e2, e3, e4, e5⟩ := hf_L (fhsi := fx 18) (fhbe := fx 19) (o_queueLength := vx 49) (o_takenBits := vx 50) (fove := fx 8) (foqu := fx 9) (fotu := gx 1) (focb := fx 10) (of_months := vx 51) (of_full := vx 52) (of_lean := vx 53) (fofal := fx 11) (fofon := fx 12) (ahasMoon := vx 15) (amoonStart := vx 16) (amoonStep := vx 17) (r_struck := fx 29) (ad_of hM h h3) 25 0 1000000000 (vx 49) (vx 50) (vx 51) (vx 52) (vx 53) (fx 18) (fx 19) (fx 8) (fx 9) (gx 1) (fx 10) (fx 11) (fx 12) (by omega) (by omega) h.2.2.2.1.2 (fun e' he => absurd he (by omega))
    unfold fX4_fill
    rw [nI_0] at e1
    have e0 : tE (aN vx) (fx 28) (fx 29) 0 = 0 := rfl
    rw [e0] at e1
    rw [e1]
    exact ⟨_, _, _, _, _, _, _, _, _, _, _, _, _, _, _, rfl, e2, E, e3, rfl, e4, e5⟩
  · rw [if_neg c]
    refine ⟨_, _, _, _, _, _, _, _, _, _, _, _, _, _, _, rfl, h.2.2.2.1.2, ?_⟩
    rcases h.2.2.2.2.2.2 with q | q
    · exact absurd q c
    · exact q
abbrev Q16 : Type := Int32 × Int32 × Int32 × Int32 × Int32 × Int32 × Int32 × Int32 × (Nat → Int32) × (Nat → Int32) × (Nat → Int32) × (Nat → Int32) × (Nat → Int64) × (Nat → Int32) × (Nat → Int32) × (Nat → Int32)
def xt16 (vx : Nat → Int32) (fx : Nat → Nat → Int32) (gx : Nat → Nat → Int64) (O : Q16) : Int32 × (Nat → Int32) × (Nat → Nat → Int32) × (Nat → Nat → Int64) := (O.1, (upd (upd (upd (upd (upd (upd (upd vx 4 O.2.1) 60 O.2.2.1) 49 O.2.2.2.1) 50 O.2.2.2.2.1) 51 O.2.2.2.2.2.1) 52 O.2.2.2.2.2.2.1) 53 O.2.2.2.2.2.2.2.1), (updF (updF (updF (updF (updF (updF (updF fx 18 O.2.2.2.2.2.2.2.2.1) 19 O.2.2.2.2.2.2.2.2.2.1) 8 O.2.2.2.2.2.2.2.2.2.2.1) 9 O.2.2.2.2.2.2.2.2.2.2.2.1) 10 O.2.2.2.2.2.2.2.2.2.2.2.2.2.1) 11 O.2.2.2.2.2.2.2.2.2.2.2.2.2.2.1) 12 O.2.2.2.2.2.2.2.2.2.2.2.2.2.2.2), (updG gx 1 O.2.2.2.2.2.2.2.2.2.2.2.2.1))
theorem e16 {vx : Nat → Int32} {fx : Nat → Nat → Int32} {gx : Nat → Nat → Int64} {mi : Nat → Int32} {fm : Nat → Nat → Int32} (h : REL3 vx fx mi fm) {r : Int32} {v : Nat → Int32} {f : Nat → Nat → Int32} {g : Nat → Nat → Int64} {mi2 : Nat → Int32} {fm2 : Nat → Nat → Int32} {O : Q16} (hx : (r, v, f, g) = xt16 vx fx gx O) (hZ : oZ O.2.2.2.2.2.2.2.2.2.2.2.2.2.2.2) (hH : O.2.1 = 0 ∨ HT vx fx O.2.2.1 O.2.2.2.2.2.2.2.2.1 O.2.2.2.2.2.2.2.2.2.1) (hk : KPT mi fm mi2 fm2) : REL3 v f mi2 fm2 ∧ r = O.1 := by
  unfold xt16 at hx
  simp only [Prod.mk.injEq] at hx
  obtain ⟨rfl, rfl, rfl, rfl⟩ := hx
  refine ⟨r3_keepG h (fun k h1 h2 => ?_) rfl (fun k h1 h2 => ?_) hk.1 hk.2.1 hk.2.2.2 ⟨h.2.2.2.1.1, hZ⟩ ?_ hH h.2.2.2.2.1, rfl⟩
  · repeat rw [upd_ne (by omega)]
  · repeat rw [updF_ne (by omega)]
  · have h5 := h.2.2.2.2.2.1
    unfold OUTx at h5 ⊢
    rw [hk.2.2.1.1, hk.2.2.1.2]
    exact h5
theorem nm_of {vx : Nat → Int32} {fx : Nat → Nat → Int32} {mi : Nat → Int32} {fm : Nat → Nat → Int32} (h : REL3 vx fx mi fm) {p : Int32} (hp : ¬ fX11_hasMonth (vx 11) p (0 : Int32) (vx 11) = 0) : ¬ mi 3 = 0 := by
  obtain ⟨m1, m2, m3, m4⟩ := dat_M h.1.2
  have w1 : vx 11 = mi 0 := h.1.2.1.1.1
  rw [dx_month, w1] at hp
  by_cases c : 0 < (mi 0).toInt
  · exact m1.1 c
  · exact absurd (if_neg (fun q => c q.1)) hp
theorem nd_of {vx : Nat → Int32} {fx : Nat → Nat → Int32} {mi : Nat → Int32} {fm : Nat → Nat → Int32} (h : REL3 vx fx mi fm) {p : Int32} (hp : ¬ fX11_hasDeed (vx 20) p = 0) : ¬ mi 3 = 0 := by
  obtain ⟨m1, m2, m3, m4⟩ := dat_M h.1.2
  have w1 : vx 11 = mi 0 := h.1.2.1.1.1
  have eM := clN (x := vx 11) (by rw [w1]; omega)
  have eM2 : (aM vx : Int) = (mi 0).toInt := by rw [← w1]; exact eM.2
  obtain ⟨a1, a2⟩ := dd_of h p
  rcases a2 with a2 | ⟨_, _, _, _, a, b, c, _, _, _, h1, _⟩
  · exact absurd (a1.trans a2) hp
  · exact m1.1 (by omega)
theorem p3_shifts {vx : Nat → Int32} {fx : Nat → Nat → Int32} {gx : Nat → Nat → Int64} {mi : Nat → Int32} {fm : Nat → Nat → Int32} (hM : MIp mi fm) (h : REL3 vx fx mi fm) {r r2 : Int32} {v : Nat → Int32} {f : Nat → Nat → Int32} {g : Nat → Nat → Int64} {mi2 : Nat → Int32} {fm2 : Nat → Nat → Int32} {p1 : Int32} (hx : (r, v, f, g) = xs_shifts vx fx gx p1) (hm : (r2, mi2, fm2) = ms_shifts mi fm p1) : REL3 v f mi2 fm2 := by
  obtain ⟨O, hO⟩ : ∃ O, O = fX11_shifts (vx 4) (vx 60) (fx 18) (fx 19) (vx 49) (vx 50) (fx 8) (fx 9) (gx 1) (fx 10) (vx 51) (vx 52) (vx 53) (fx 11) (fx 12) (vx 11) (vx 12) (vx 13) (vx 15) (vx 16) (vx 17) (vx 19) (fx 22) (fx 23) (fx 24) (fx 25) (fx 26) (fx 27) (fx 28) (fx 29) p1 := ⟨_, rfl⟩
  have hx : (r, v, f, g) = xt16 vx fx gx O := by
    rw [hx, hO]
    rfl
  have hk : KPT mi fm mi2 fm2 := by
    unfold ms_shifts mt_shifts at hm
    simp only [Prod.mk.injEq] at hm
    obtain ⟨rfl, rfl, rfl⟩ := hm
    exact ⟨fun k hk => by repeat rw [upd_ne (by omega)], ⟨rfl, rfl, rfl⟩, ⟨rfl, rfl⟩, fun k hk => by repeat rw [updF_ne (by omega)]⟩
  have hfin : oZ O.2.2.2.2.2.2.2.2.2.2.2.2.2.2.2 → (O.2.1 = 0 ∨ HT vx fx O.2.2.1 O.2.2.2.2.2.2.2.2.1 O.2.2.2.2.2.2.2.2.2.1) → REL3 v f mi2 fm2 := fun a b => (e16 h hx a b hk).1
  unfold fX11_shifts at hO
  obtain ⟨o1, e1, hO⟩ := cal_out hO
  by_cases c1 : o1 = 0
  · rw [if_pos c1] at hO
    refine hfin ?_ ?_
    · rw [hO]
      exact h.2.2.2.1.2
    · rw [hO]
      exact h.2.2.2.2.2.2
  rw [if_neg c1] at hO
  have n3 : ¬ mi 3 = 0 := nm_of h (p := p1) (e1 ▸ c1)
  obtain ⟨hs, er, ql, tb, a, b, c, si, be, ve, qu, tu, bg, al, on, g1, g2, g3⟩ := hn_of (gx := gx) hM h n3
  obtain ⟨o2, e2, hO⟩ := cal_out hO
  rw [g1] at e2
  obtain ⟨o3, e3, hO⟩ := cal_out hO
  subst e2
  refine hfin ?_ (Or.inr ?_)
  · rw [hO]
    exact g2
  · rw [hO]
    exact g3
theorem p3_settled {vx : Nat → Int32} {fx : Nat → Nat → Int32} {gx : Nat → Nat → Int64} {mi : Nat → Int32} {fm : Nat → Nat → Int32} (hM : MIp mi fm) (h : REL3 vx fx mi fm) {r r2 : Int32} {v : Nat → Int32} {f : Nat → Nat → Int32} {g : Nat → Nat → Int64} {mi2 : Nat → Int32} {fm2 : Nat → Nat → Int32} {p1 : Int32} (hx : (r, v, f, g) = xs_settled vx fx gx p1) (hm : (r2, mi2, fm2) = ms_settled mi fm p1) : REL3 v f mi2 fm2 := by
  obtain ⟨O, hO⟩ : ∃ O, O = fX11_settled (vx 4) (vx 60) (fx 18) (fx 19) (vx 49) (vx 50) (fx 8) (fx 9) (gx 1) (fx 10) (vx 51) (vx 52) (vx 53) (fx 11) (fx 12) (vx 11) (vx 12) (vx 13) (vx 15) (vx 16) (vx 17) (vx 19) (fx 22) (fx 23) (fx 24) (fx 25) (fx 26) (fx 27) (fx 28) (fx 29) p1 := ⟨_, rfl⟩
  have hx : (r, v, f, g) = xt16 vx fx gx O := by
    rw [hx, hO]
    rfl
  have hk : KPT mi fm mi2 fm2 := by
    unfold ms_settled mt_settled at hm
    simp only [Prod.mk.injEq] at hm
    obtain ⟨rfl, rfl, rfl⟩ := hm
    exact ⟨fun k hk => by repeat rw [upd_ne (by omega)], ⟨rfl, rfl, rfl⟩, ⟨rfl, rfl⟩, fun k hk => by repeat rw [updF_ne (by omega)]⟩
  have hfin : oZ O.2.2.2.2.2.2.2.2.2.2.2.2.2.2.2 → (O.2.1 = 0 ∨ HT vx fx O.2.2.1 O.2.2.2.2.2.2.2.2.1 O.2.2.2.2.2.2.2.2.2.1) → REL3 v f mi2 fm2 := fun a b => (e16 h hx a b hk).1
  unfold fX11_settled at hO
  obtain ⟨o1, e1, hO⟩ := cal_out hO
  by_cases c1 : o1 = 0
  · rw [if_pos c1] at hO
    refine hfin ?_ ?_
    · rw [hO]
      exact h.2.2.2.1.2
    · rw [hO]
      exact h.2.2.2.2.2.2
  rw [if_neg c1] at hO
  have n3 : ¬ mi 3 = 0 := nm_of h (p := p1) (e1 ▸ c1)
  obtain ⟨hs, er, ql, tb, a, b, c, si, be, ve, qu, tu, bg, al, on, g1, g2, g3⟩ := hn_of (gx := gx) hM h n3
  obtain ⟨o2, e2, hO⟩ := cal_out hO
  rw [g1] at e2
  obtain ⟨o3, e3, hO⟩ := cal_out hO
  subst e2
  refine hfin ?_ (Or.inr ?_)
  · rw [hO]
    exact g2
  · rw [hO]
    exact g3
theorem p3_redated {vx : Nat → Int32} {fx : Nat → Nat → Int32} {gx : Nat → Nat → Int64} {mi : Nat → Int32} {fm : Nat → Nat → Int32} (hM : MIp mi fm) (h : REL3 vx fx mi fm) {r r2 : Int32} {v : Nat → Int32} {f : Nat → Nat → Int32} {g : Nat → Nat → Int64} {mi2 : Nat → Int32} {fm2 : Nat → Nat → Int32} {p1 : Int32} (hx : (r, v, f, g) = xs_redated vx fx gx p1) (hm : (r2, mi2, fm2) = ms_redated mi fm p1) : REL3 v f mi2 fm2 := by
  obtain ⟨O, hO⟩ : ∃ O, O = fX11_redated (vx 4) (vx 60) (fx 18) (fx 19) (vx 49) (vx 50) (fx 8) (fx 9) (gx 1) (fx 10) (vx 51) (vx 52) (vx 53) (fx 11) (fx 12) (vx 11) (vx 12) (vx 13) (vx 15) (vx 16) (vx 17) (vx 19) (vx 20) (fx 22) (fx 23) (fx 24) (fx 25) (fx 26) (fx 27) (fx 28) (fx 29) (fx 30) (fx 31) (fx 32) (fx 33) p1 := ⟨_, rfl⟩
  have hx : (r, v, f, g) = xt16 vx fx gx O := by
    rw [hx, hO]
    rfl
  have hk : KPT mi fm mi2 fm2 := by
    unfold ms_redated mt_redated at hm
    simp only [Prod.mk.injEq] at hm
    obtain ⟨rfl, rfl, rfl⟩ := hm
    exact ⟨fun k hk => by repeat rw [upd_ne (by omega)], ⟨rfl, rfl, rfl⟩, ⟨rfl, rfl⟩, fun k hk => by repeat rw [updF_ne (by omega)]⟩
  have hfin : oZ O.2.2.2.2.2.2.2.2.2.2.2.2.2.2.2 → (O.2.1 = 0 ∨ HT vx fx O.2.2.1 O.2.2.2.2.2.2.2.2.1 O.2.2.2.2.2.2.2.2.2.1) → REL3 v f mi2 fm2 := fun a b => (e16 h hx a b hk).1
  unfold fX11_redated bfX11_redated_32 at hO
  obtain ⟨o1, e1, hO⟩ := cal_out hO
  by_cases c1 : o1 = 0
  · rw [if_pos c1] at hO
    refine hfin ?_ ?_
    · rw [hO]
      exact h.2.2.2.1.2
    · rw [hO]
      exact h.2.2.2.2.2.2
  rw [if_neg c1] at hO
  have n3 : ¬ mi 3 = 0 := nd_of h (p := p1) (e1 ▸ c1)
  obtain ⟨hs, er, ql, tb, a, b, c, si, be, ve, qu, tu, bg, al, on, g1, g2, g3⟩ := hn_of (gx := gx) hM h n3
  obtain ⟨o2, e2, hO⟩ := cal_out hO
  rw [g1] at e2
  obtain ⟨o3, e3, hO⟩ := cal_out hO
  obtain ⟨o4, e4, hO⟩ := cal_out hO
  subst e2
  refine hfin ?_ (Or.inr ?_)
  · rw [hO]
    exact g2
  · rw [hO]
    exact g3
def nwF (rn rs : Nat → Int32) (t : Int32) : Nat → Nat → Int32 → Int32
  | 0, _, v => v
  | k + 1, i, v => nwF rn rs t k (i + 1) (if rs i = 0 then (if rn i ≤ t then v else (if rn i < v then rn i else v)) else v)
theorem nwF_cong {rn rs fn fs : Nat → Int32} {t : Int32} : ∀ (k i : Nat) (v : Int32), (∀ j, j < i + k → fn j = rn j ∧ fs j = rs j) → nwF fn fs t k i v = nwF rn rs t k i v := by
  intro k
  induction k with
  | zero => intro i v h; rfl
  | succ k ih =>
    intro i v h
    rw [nwF, nwF, (h i (by omega)).1, (h i (by omega)).2]
    exact ih (i + 1) _ (fun j hj => h j (by omega))
theorem nwF_is {rn rs : Nat → Int32} {t : Int32} : ∀ (k i : Nat) (v : Int32), nwF rn rs t k i v = v ∨ ∃ j, j < i + k ∧ ¬ rn j ≤ t ∧ nwF rn rs t k i v = rn j := by
  intro k
  induction k with
  | zero => intro i v; exact Or.inl rfl
  | succ k ih =>
    intro i v
    rw [nwF]
    rcases ih (i + 1) (if rs i = 0 then (if rn i ≤ t then v else (if rn i < v then rn i else v)) else v) with e | ⟨j, hj, h1, h2⟩
    · rw [e]
      split
      · split
        · exact Or.inl rfl
        · rename_i c
          split
          · exact Or.inr ⟨i, by omega, c, rfl⟩
          · exact Or.inl rfl
      · exact Or.inl rfl
    · exact Or.inr ⟨j, by omega, h1, h2⟩
theorem nb_s (areportCount : Int32) (r_known : Nat → Int32) (r_struck : Nat → Int32) (p1 : Int32) (z : Nat) (v2 v3 : Int32) : lfX0_newsBehind areportCount r_known r_struck p1 (z + 1) v2 v3 = dfX0_newsBehind_6 areportCount r_known r_struck p1 (lfX0_newsBehind areportCount r_known r_struck p1 z) v2 v3 := rfl
theorem nt_s (mi : Nat → Int32) (fm_struck : Nat → Int32) (fm_reportKnown : Nat → Int32) (p1 : Int32) (z : Nat) (v2 v3 : Int32) : lfX12_nextTime mi fm_struck fm_reportKnown p1 (z + 1) v2 v3 = dfX12_nextTime_6 mi fm_struck fm_reportKnown p1 (lfX12_nextTime mi fm_struck fm_reportKnown p1 z) v2 v3 := rfl
theorem nb_L {n : Nat} {rn rs : Nat → Int32} {t : Int32} (hn : n ≤ 24) : ∀ (k i z : Nat) (v : Int32), i + k = n → k < z → lfX0_newsBehind (nI n) rn rs t z v (nI i) = nwF rn rs t k i v := by
  intro k
  induction k with
  | zero =>
    intro i z v hi hz
    obtain ⟨z, rfl⟩ : ∃ y, z = y + 1 := ⟨z - 1, by omega⟩
    have e : i = n := by omega
    subst e
    rw [nb_s]
    unfold dfX0_newsBehind_6
    rw [if_pos (Int32.le_refl _), nwF]
  | succ k ih =>
    intro i z v hi hz
    obtain ⟨z, rfl⟩ : ∃ y, z = y + 1 := ⟨z - 1, by omega⟩
    rw [nb_s]
    unfold dfX0_newsBehind_6 bfX0_newsBehind_53
    rw [if_neg (fun w => by have := (nI_leI (by omega) (by omega)).1 w; omega), nI_clamp (by omega), nI_1, nwF]
    by_cases c : rs i = 0
    · rw [if_pos c, if_pos c]
      by_cases c2 : rn i ≤ t
      · rw [if_pos c2, if_pos c2]
        exact ih (i + 1) z _ (by omega) (by omega)
      · rw [if_neg c2, if_neg c2]
        exact ih (i + 1) z _ (by omega) (by omega)
    · rw [if_neg c, if_neg c]
      exact ih (i + 1) z _ (by omega) (by omega)
theorem nt_L {n : Nat} {mi rn rs : Nat → Int32} {t : Int32} (hn : n ≤ 24) (h10 : mi 10 = nI n) : ∀ (k i z : Nat) (v : Int32), i + k = n → k < z → lfX12_nextTime mi rs rn t z v (nI i) = nwF rn rs t k i v := by
  intro k
  induction k with
  | zero =>
    intro i z v hi hz
    obtain ⟨z, rfl⟩ : ∃ y, z = y + 1 := ⟨z - 1, by omega⟩
    have e : i = n := by omega
    subst e
    rw [nt_s]
    unfold dfX12_nextTime_6
    rw [h10, if_pos (Int32.le_refl _), nwF]
  | succ k ih =>
    intro i z v hi hz
    obtain ⟨z, rfl⟩ : ∃ y, z = y + 1 := ⟨z - 1, by omega⟩
    rw [nt_s]
    unfold dfX12_nextTime_6 bfX12_nextTime_46 bfX12_nextTime_47
    rw [h10, if_neg (fun w => by have := (nI_leI (by omega) (by omega)).1 w; omega), nI_clamp (by omega), nI_1, nwF]
    by_cases c : rs i = 0
    · rw [if_pos c, if_pos c]
      by_cases c2 : rn i ≤ t
      · rw [if_pos c2, if_pos c2]
        exact ih (i + 1) z _ (by omega) (by omega)
      · rw [if_neg c2, if_neg c2]
        exact ih (i + 1) z _ (by omega) (by omega)
    · rw [if_neg c, if_neg c]
      exact ih (i + 1) z _ (by omega) (by omega)
theorem tE_n {n : Nat} (hn : n ≤ 24) (rn rs : Nat → Int32) (e : Nat) : tE n rn rs (e + 1) = nwF rn rs (tE n rn rs e) n 0 1000 := by
  have q := nb_L (rn := rn) (rs := rs) (t := tE n rn rs e) hn n 0 1000000000 1000 (by omega) (by omega)
  rw [nI_0] at q
  exact q
theorem i1000 : (1000 : Int32).toInt = 1000 := by decide
theorem tE_up {n : Nat} (hn : n ≤ 24) (rn rs : Nat → Int32) (e : Nat) (h : (tE n rn rs e).toInt ≤ 999) : (tE n rn rs e).toInt < (tE n rn rs (e + 1)).toInt := by
  rw [tE_n hn]
  rcases nwF_is (rn := rn) (rs := rs) (t := tE n rn rs e) n 0 1000 with q | ⟨j, _, h1, h2⟩
  · rw [q, i1000]
    omega
  · rw [h2]
    have : ¬ (rn j).toInt ≤ (tE n rn rs e).toInt := fun q => h1 (i32le.mpr q)
    omega
theorem tE_0 {n : Nat} {rn rs : Nat → Int32} : (tE n rn rs 0).toInt = 0 := by
  show (0 : Int32).toInt = 0
  decide
def cN (p : Nat → Bool) : Nat → Nat
  | 0 => 0
  | n + 1 => cN p n + (if p n = true then 1 else 0)
theorem cN_le (p : Nat → Bool) : ∀ n, cN p n ≤ n := by
  intro n
  induction n with
  | zero => exact Nat.le_refl _
  | succ n ih =>
    rw [cN]
    split <;> omega
theorem cN_mono {p q : Nat → Bool} : ∀ n, (∀ j, j < n → p j = true → q j = true) → cN p n ≤ cN q n := by
  intro n
  induction n with
  | zero => intro _; exact Nat.le_refl _
  | succ n ih =>
    intro h
    have h1 := ih (fun j hj => h j (by omega))
    have h2 := h n (by omega)
    rw [cN, cN]
    by_cases c : p n = true
    · rw [if_pos c, if_pos (h2 c)]
      omega
    · rw [if_neg c]
      omega
theorem cN_lt {p q : Nat → Bool} : ∀ n, (∀ j, j < n → p j = true → q j = true) → (∃ j, j < n ∧ q j = true ∧ ¬ p j = true) → cN p n + 1 ≤ cN q n := by
  intro n
  induction n with
  | zero => rintro _ ⟨j, hj, _⟩; omega
  | succ n ih =>
    rintro h ⟨j, hj, h1, h2⟩
    have h3 := h n (by omega)
    rw [cN, cN]
    by_cases c : j = n
    · subst c
      have h4 := cN_mono (p := p) (q := q) j (fun i hi => h i (by omega))
      rw [if_neg h2, if_pos h1]
      omega
    · have h4 := ih (fun i hi => h i (by omega)) ⟨j, by omega, h1, h2⟩
      by_cases c : p n = true
      · rw [if_pos c, if_pos (h3 c)]
        omega
      · rw [if_neg c]
        omega
theorem tE_cnt {n : Nat} (hn : n ≤ 24) (rn rs : Nat → Int32) : ∀ e : Nat, (tE n rn rs e).toInt ≤ 999 → e ≤ cN (fun j => decide ((rn j).toInt ≤ (tE n rn rs e).toInt)) n := by
  intro e
  induction e with
  | zero => intro _; exact Nat.zero_le _
  | succ e ih =>
    intro h
    by_cases c : (tE n rn rs e).toInt ≤ 999
    · have h1 := ih c
      have h2 := tE_up hn rn rs e c
      have h3 : ∃ j, j < n ∧ (tE n rn rs (e + 1)) = rn j := by
        rw [tE_n hn] at h ⊢
        rcases nwF_is (rn := rn) (rs := rs) (t := tE n rn rs e) n 0 1000 with q | ⟨j, h4, _, h5⟩
        · rw [q, i1000] at h
          omega
        · exact ⟨j, by omega, h5⟩
      obtain ⟨j, hj, h4⟩ := h3
      have h5 := cN_lt (p := fun j => decide ((rn j).toInt ≤ (tE n rn rs e).toInt)) (q := fun j => decide ((rn j).toInt ≤ (tE n rn rs (e + 1)).toInt)) n (fun i hi w => by
        have w := of_decide_eq_true w
        exact decide_eq_true (by omega)) ⟨j, hj, decide_eq_true (by rw [h4]; exact Int.le_refl _), fun w => by
        have w := of_decide_eq_true w
        rw [← h4] at w
        omega⟩
      omega
    · exfalso
      rw [tE_n hn] at h
      rcases nwF_is (rn := rn) (rs := rs) (t := tE n rn rs e) n 0 1000 with q | ⟨j, _, h1, h2⟩
      · rw [q, i1000] at h
        omega
      · rw [h2] at h
        have : ¬ (rn j).toInt ≤ (tE n rn rs e).toInt := fun q => h1 (i32le.mpr q)
        omega
theorem tE_pos {n : Nat} (hn : n ≤ 24) (rn rs : Nat → Int32) : ∀ e : Nat, (∀ e', e' < e → (tE n rn rs e').toInt ≤ 999) → (e = 0 ∧ (tE n rn rs e).toInt = 0) ∨ (0 < e ∧ 0 < (tE n rn rs e).toInt) := by
  intro e
  induction e with
  | zero => intro _; exact Or.inl ⟨rfl, tE_0⟩
  | succ e ih =>
    intro h
    have h1 := tE_up hn rn rs e (h e (by omega))
    rcases ih (fun e' he => h e' (by omega)) with ⟨_, q⟩ | ⟨_, q⟩
    · exact Or.inr ⟨by omega, by omega⟩
    · exact Or.inr ⟨by omega, by omega⟩
def hcF (val tt : Nat → Int32) : Nat → Int32 × Int32
  | 0 => (0, 0)
  | e + 1 => if e = 0 ∨ val e = val (e - 1) then hcF val tt e else ((hcF val tt e).1 + 1, tt e)
theorem hcF_cong {val val' tt : Nat → Int32} : ∀ e, (∀ i, 1 ≤ i → i < e → (val i = val (i - 1) ↔ val' i = val' (i - 1))) → hcF val tt e = hcF val' tt e := by
  intro e
  induction e with
  | zero => intro _; rfl
  | succ e ih =>
    intro h
    rw [hcF, hcF, ih (fun i h1 h2 => h i h1 (by omega))]
    by_cases c : e = 0
    · rw [if_pos (Or.inl c), if_pos (Or.inl c)]
    · have q := h e (by omega) (by omega)
      by_cases c2 : val e = val (e - 1)
      · rw [if_pos (Or.inr c2), if_pos (Or.inr (q.1 c2))]
      · rw [if_neg (fun w => w.elim c c2), if_neg (fun w => w.elim c (fun w => c2 (q.2 w)))]
theorem ca_eq {be : Nat → Int32} {e m : Nat} (he : e ≤ 25) (hm : m ≤ 24) (h1 : 1 ≤ e) : fX4_changesAt be (nI e) (nI m) = if be (25 * e + m) = be (25 * (e - 1) + m) then 0 else 1 := by
  have a1 : ((nI e * (25 : Int32)) + nI m).toNatClampNeg = 25 * e + m := by
    rw [show (25 : Int32) = nI 25 from rfl, pk_mul, nI_add, nI_clamp (by omega), Nat.mul_comm]
  have a2 : (((nI e - (1 : Int32)) * (25 : Int32)) + nI m).toNatClampNeg = 25 * (e - 1) + m := by
    obtain ⟨d, rfl⟩ : ∃ d, e = d + 1 := ⟨e - 1, by omega⟩
    rw [nI_pred, show (25 : Int32) = nI 25 from rfl, pk_mul, nI_add, nI_clamp (by omega), Nat.mul_comm]
    rfl
  unfold fX4_changesAt bfX4_changesAt_32
  rw [a1, a2]
theorem co_s (eras : Int32) (be : Nat → Int32) (p0 : Int32) (z : Nat) (v2 v3 : Int32) : lfX4_changesOf eras be p0 (z + 1) v2 v3 = dfX4_changesOf_4 eras be p0 (lfX4_changesOf eras be p0 z) v2 v3 := rfl
theorem lc_s (eras : Int32) (si be : Nat → Int32) (p0 : Int32) (z : Nat) (v2 : Int32) : lfX4_lastChangeOf eras si be p0 (z + 1) v2 = dfX4_lastChangeOf_7 eras si be p0 (lfX4_lastChangeOf eras si be p0 z) v2 := rfl
theorem co_L {E m : Nat} {be val tt : Nat → Int32} (hE : E ≤ 25) (hm : m ≤ 24) (hb : ∀ e, e < E → be (25 * e + m) = val e) : ∀ k e z : Nat, e + k = E → k < z → 1 ≤ e → lfX4_changesOf (nI E) be (nI m) z (hcF val tt e).1 (nI e) = (hcF val tt E).1 := by
  intro k
  induction k with
  | zero =>
    intro e z hi hz h1
    obtain ⟨z, rfl⟩ : ∃ y, z = y + 1 := ⟨z - 1, by omega⟩
    have e9 : e = E := by omega
    subst e9
    rw [co_s]
    unfold dfX4_changesOf_4
    rw [if_pos (Int32.le_refl _)]
  | succ k ih =>
    intro e z hi hz h1
    obtain ⟨z, rfl⟩ : ∃ y, z = y + 1 := ⟨z - 1, by omega⟩
    have q := ih (e + 1) z (by omega) (by omega) (by omega)
    rw [co_s]
    unfold dfX4_changesOf_4 bfX4_changesOf_24
    rw [if_neg (fun w => by have := (nI_leI (by omega) (by omega)).1 w; omega), ca_eq (by omega) hm h1, cal_b, hb e (by omega), hb (e - 1) (by omega), nI_1]
    rw [hcF] at q
    by_cases c : val e = val (e - 1)
    · rw [if_pos (Or.inr c)] at q
      rw [if_pos c, if_pos rfl]
      exact q
    · rw [if_neg (fun w => w.elim (by omega) c)] at q
      rw [if_neg c, if_neg (by decide)]
      exact q
theorem lc_L {E m : Nat} {si be val tt : Nat → Int32} (hE : E ≤ 25) (hm : m ≤ 24) (hb : ∀ e, e < E → be (25 * e + m) = val e) (hs : ∀ e, e < E → si e = tt e) : ∀ e z : Nat, e < E → e < z → lfX4_lastChangeOf (nI E) si be (nI m) z (nI e) = (hcF val tt (e + 1)).2 := by
  intro e
  induction e with
  | zero =>
    intro z h1 hz
    obtain ⟨z, rfl⟩ : ∃ y, z = y + 1 := ⟨z - 1, by omega⟩
    rw [lc_s]
    unfold dfX4_lastChangeOf_7
    rw [if_pos (by rw [nI_0]; decide), hcF, if_pos (Or.inl rfl), hcF]
  | succ e ih =>
    intro z h1 hz
    obtain ⟨z, rfl⟩ : ∃ y, z = y + 1 := ⟨z - 1, by omega⟩
    have q := ih z (by omega) (by omega)
    rw [lc_s]
    unfold dfX4_lastChangeOf_7
    rw [if_neg (fun w => by have w := i32lt.mp w; rw [nI_toInt (by omega), show (1 : Int32).toInt = 1 by decide] at w; omega), ca_eq (by omega) hm (by omega), cal_b, hb (e + 1) (by omega), show e + 1 - 1 = e by omega, hb e (by omega), nI_clamp (by omega), hcF]
    by_cases c : val (e + 1) = val e
    · rw [if_pos c, if_pos rfl, if_pos (show e + 1 = 0 ∨ val (e + 1) = val (e + 1 - 1) from Or.inr (by rw [show e + 1 - 1 = e by omega]; exact c)), ← q, ← Int32.sub_eq_add_neg, nI_pred]
    · rw [if_neg c, if_neg (by decide), if_neg (show ¬ (e + 1 = 0 ∨ val (e + 1) = val (e + 1 - 1)) from fun w => w.elim (by omega) (fun w => c (by rw [show e + 1 - 1 = e by omega] at w; exact w)))]
      exact hs _ h1
theorem fo_s (mi : Nat → Int32) (fm_must : Nat → Int32) (fm_least : Nat → Int32) (fm_pin : Nat → Int32) (fm_ways : Nat → Int32) (fm_verdict : Nat → Int32) (fm_row : Nat → Int32) (fm_struck : Nat → Int32) (fm_reportKnown : Nat → Int32) (fm_reportPlace : Nat → Int32) (fm_reportMonth : Nat → Int32) (fm_reportDay : Nat → Int32) (fm_reportKind : Nat → Int32) (fm_trust : Nat → Int32) (fm_letter : Nat → Int32) (fm_official : Nat → Int32) (fm_deedMonth : Nat → Int32) (fm_deedLong : Nat → Int32) (fm_deedKind : Nat → Int32) (fm_deedDay : Nat → Int32) (p1 : Int32) (p2 : Int32) (z : Nat) (v3 : Int32) (v4 : Int32) (w0_37 : Int32) (w0_41 : Int32) (w0_48 : Int32) (w0_49 : Int32) (z1 : Nat → Int32) (z2 : Nat → Int32) (z3 : Nat → Int32) (z4 : Nat → Int32) (z5 : Nat → Int32) (z6 : Nat → Int32) (z15 : Nat → Int32) : lfX12_follows mi fm_must fm_least fm_pin fm_ways fm_verdict fm_row fm_struck fm_reportKnown fm_reportPlace fm_reportMonth fm_reportDay fm_reportKind fm_trust fm_letter fm_official fm_deedMonth fm_deedLong fm_deedKind fm_deedDay p1 p2 (z + 1) v3 v4 w0_37 w0_41 w0_48 w0_49 z1 z2 z3 z4 z5 z6 z15 = dfX12_follows_15 mi fm_must fm_least fm_pin fm_ways fm_verdict fm_row fm_struck fm_reportKnown fm_reportPlace fm_reportMonth fm_reportDay fm_reportKind fm_trust fm_letter fm_official fm_deedMonth fm_deedLong fm_deedKind fm_deedDay p1 p2 (lfX12_follows mi fm_must fm_least fm_pin fm_ways fm_verdict fm_row fm_struck fm_reportKnown fm_reportPlace fm_reportMonth fm_reportDay fm_reportKind fm_trust fm_letter fm_official fm_deedMonth fm_deedLong fm_deedKind fm_deedDay p1 p2 z) v3 v4 w0_37 w0_41 w0_48 w0_49 z1 z2 z3 z4 z5 z6 z15 := rfl
def pv (val : Nat → Int32) (e : Nat) : Int32 := if e = 0 then 0 else val (e - 1)
theorem fo_L {vx : Nat → Int32} {fx : Nat → Nat → Int32} {mi : Nat → Int32} {fm : Nat → Nat → Int32} (hM : MIp mi fm) (h : REL3 vx fx mi fm) (h3 : ¬ mi 3 = 0) {x1 x2 x3 x4 x5 x6 x7 : Nat → Int32} {p1 p2 : Int32} {E : Nat} {val : Nat → Int32} (hE : E ≤ 25) (ht : ∀ e, e < E → (tE (aN vx) (fx 28) (fx 29) e).toInt ≤ 999) (hx : ¬ (tE (aN vx) (fx 28) (fx 29) E).toInt ≤ 999) (hv : ∀ e, e < E → ∀ of : Nat → Int32, (∀ j, j ≤ aM vx → of j = nI (aBg vx fx (tE (aN vx) (fx 28) (fx 29) e) j)) → (p2 = -1 ∧ of p1.toNatClampNeg = val e) ∨ (¬ p2 = -1 ∧ fX12_dueBy (fm 8) (fm 10) (fm 11) (fm 9) of p2 = val e)) : ∀ (k e z : Nat) (w0_37 w0_41 : Int32) (z1 z2 z3 z4 z5 z6 z15 : Nat → Int32), e + k = E → k < z → ∃ (a b : Int32) (y1 y2 y3 y4 y5 y6 y7 : Nat → Int32), lfX12_follows mi x1 x2 x3 x4 x5 x6 (fm 4) (fm 7) (fm 2) (fm 5) (fm 6) (fm 3) (fm 0) (fm 1) x7 (fm 8) (fm 10) (fm 11) (fm 9) p1 p2 z (pv val e) (tE (aN vx) (fx 28) (fx 29) e) w0_37 w0_41 (hcF val (tE (aN vx) (fx 28) (fx 29)) e).1 (hcF val (tE (aN vx) (fx 28) (fx 29)) e).2 z1 z2 z3 z4 z5 z6 z15 = (a, b, (hcF val (tE (aN vx) (fx 28) (fx 29)) E).1, (hcF val (tE (aN vx) (fx 28) (fx 29)) E).2, y1, y2, y3, y4, y5, y6, y7) := by
  obtain ⟨_, _, _, k10, _, _, _, _, kN⟩ := rd_of hM h h3
  obtain ⟨_, ⟨_, _, _, _, _, _, _, b8⟩, _⟩ := ad_of hM h h3
  have e9 : (999 : Int32).toInt = 999 := by decide
  intro k
  induction k with
  | zero =>
    intro e z w0_37 w0_41 z1 z2 z3 z4 z5 z6 z15 hi hz
    obtain ⟨z, rfl⟩ : ∃ y, z = y + 1 := ⟨z - 1, by omega⟩
    have e8 : e = E := by omega
    subst e8
    rw [fo_s]
    unfold dfX12_follows_15
    rw [if_pos (i32lt.mpr (by rw [e9]; omega))]
    exact ⟨_, _, _, _, _, _, _, _, _, rfl⟩
  | succ k ih =>
    intro e z w0_37 w0_41 z1 z2 z3 z4 z5 z6 z15 hi hz
    obtain ⟨z, rfl⟩ : ∃ y, z = y + 1 := ⟨z - 1, by omega⟩
    have t1 := ht e (by omega)
    have t2 := tE_pos b8 (fx 28) (fx 29) e (fun e' he => ht e' (by omega))
    rw [fo_s]
    unfold dfX12_follows_15
    rw [if_neg (fun w => by have w := i32lt.mp w; rw [e9] at w; omega)]
    obtain ⟨must, least, pin, ways, ve, row, of, rmn, g1, g2, g3⟩ := qo_of hM h h3 (upd (upd (upd (upd mi 37 w0_37) 41 w0_41) 48 (hcF val (tE (aN vx) (fx 28) (fx 29)) e).1) 49 (hcF val (tE (aN vx) (fx 28) (fx 29)) e).2) (fun k hk => by rw [upd_ne (by omega), upd_ne (by omega), upd_ne (by omega), upd_ne (by omega)]) ⟨rfl, rfl, rfl⟩ z1 z2 z3 z4 z5 z6 z15 (tE (aN vx) (fx 28) (fx 29) e)
    rw [cal_b, g1]
    dsimp only
    have hs : ∀ (c1 c2 : Int32), fX12_nextTime (upd (upd (upd (upd mi 37 0) 41 rmn) 48 c1) 49 c2) (fm 4) (fm 7) (tE (aN vx) (fx 28) (fx 29) e) = tE (aN vx) (fx 28) (fx 29) (e + 1) := by
      intro c1 c2
      rw [tE_n b8]
      have q := nt_L (mi := upd (upd (upd (upd mi 37 0) 41 rmn) 48 c1) 49 c2) (rn := fm 7) (rs := fm 4) (t := tE (aN vx) (fx 28) (fx 29) e) b8 k10 (aN vx) 0 1000000000 1000 (by omega) (by omega)
      rw [nI_0, nwF_cong (rn := fx 28) (rs := fx 29) (aN vx) 0 1000 (fun j hj => kN j (by omega))] at q
      exact q
    have go : ∃ (a b : Int32) (y1 y2 y3 y4 y5 y6 y7 : Nat → Int32), bfX12_follows_48 mi x1 x2 x3 x4 x5 x6 (fm 4) (fm 7) (fm 2) (fm 5) (fm 6) (fm 3) (fm 0) (fm 1) x7 (fm 8) (fm 10) (fm 11) (fm 9) p1 p2 (lfX12_follows mi x1 x2 x3 x4 x5 x6 (fm 4) (fm 7) (fm 2) (fm 5) (fm 6) (fm 3) (fm 0) (fm 1) x7 (fm 8) (fm 10) (fm 11) (fm 9) p1 p2 z) (pv val e) (tE (aN vx) (fx 28) (fx 29) e) (val e) 0 rmn (hcF val (tE (aN vx) (fx 28) (fx 29)) e).1 (hcF val (tE (aN vx) (fx 28) (fx 29)) e).2 must least pin ways ve row of = (a, b, (hcF val (tE (aN vx) (fx 28) (fx 29)) E).1, (hcF val (tE (aN vx) (fx 28) (fx 29)) E).2, y1, y2, y3, y4, y5, y6, y7) := by
      have q := ih (e + 1) z 0 rmn must least pin ways ve row of (by omega) (by omega)
      have e7 : pv val (e + 1) = val e := (if_neg (by omega)).trans (by rw [show e + 1 - 1 = e by omega])
      rw [e7, hcF] at q
      unfold bfX12_follows_48 bfX12_follows_77
      rcases t2 with ⟨t2, t3⟩ | ⟨t2, t3⟩
      · rw [if_pos (Or.inl t2)] at q
        rw [if_pos (i32le.mpr (by rw [t3, z32]; exact Int.le_refl _)), cal_b, hs]
        exact q
      · rw [if_neg (fun w => by have w := i32le.mp w; rw [z32] at w; omega)]
        have e6 : pv val e = val (e - 1) := if_neg (by omega)
        rw [e6]
        by_cases c : val e = val (e - 1)
        · rw [if_pos (Or.inr c)] at q
          rw [if_pos c, cal_b, hs]
          exact q
        · rw [if_neg (fun w => w.elim (by omega) c)] at q
          rw [if_neg c, cal_b, hs]
          exact q
    rcases hv e (by omega) of g3 with ⟨v1, v2⟩ | ⟨v1, v2⟩
    · rw [if_pos v1, v2]
      exact go
    · rw [if_neg v1, cal_b, v2]
      exact go
theorem ht_of {vx : Nat → Int32} {fx : Nat → Nat → Int32} {mi : Nat → Int32} {fm : Nat → Nat → Int32} (hM : MIp mi fm) (h : REL3 vx fx mi fm) (h3 : ¬ mi 3 = 0) {er : Int32} {si be : Nat → Int32} (hh : HT vx fx er si be) : ∃ E : Nat, 1 ≤ E ∧ E ≤ 25 ∧ er = nI E ∧ (∀ e, e < E → (tE (aN vx) (fx 28) (fx 29) e).toInt ≤ 999) ∧ ¬ (tE (aN vx) (fx 28) (fx 29) E).toInt ≤ 999 ∧ (∀ e, e < E → si e = tE (aN vx) (fx 28) (fx 29) e) ∧ ∀ e, e < E → ∀ m, m ≤ aM vx → be (25 * e + m) = nI (aBg vx fx (tE (aN vx) (fx 28) (fx 29) e) m) := by
  obtain ⟨_, ⟨_, _, _, _, _, _, _, b8⟩, _⟩ := ad_of hM h h3
  obtain ⟨E, e1, e2, e3, e4⟩ := hh
  have h9 : ¬ (tE (aN vx) (fx 28) (fx 29) E).toInt ≤ 999 := by
    rcases e4 with e4 | e4
    · intro q
      have q1 := tE_cnt b8 (fx 28) (fx 29) E q
      have q2 := cN_le (fun j => decide ((fx 28 j).toInt ≤ (tE (aN vx) (fx 28) (fx 29) E).toInt)) (aN vx)
      omega
    · exact e4
  refine ⟨E, ?_, e1, e2, fun e he => (e3 e he).1, h9, fun e he => (e3 e he).2.1, fun e he => (e3 e he).2.2⟩
  rcases Nat.eq_zero_or_pos E with q | q
  · subst q
    exact absurd (by rw [tE_0]; omega) h9
  · exact q
def mt12 (mi : Nat → Int32) (fm : Nat → Nat → Int32) (U : Int32 × Int32 × Int32 × Int32 × Int32 × (Nat → Int32) × (Nat → Int32) × (Nat → Int32) × (Nat → Int32) × (Nat → Int32) × (Nat → Int32) × (Nat → Int32)) : Int32 × (Nat → Int32) × (Nat → Nat → Int32) := (U.1, (upd (upd (upd (upd mi 37 U.2.1) 41 U.2.2.1) 48 U.2.2.2.1) 49 U.2.2.2.2.1), (updF (updF (updF (updF (updF (updF (updF fm 14 U.2.2.2.2.2.1) 15 U.2.2.2.2.2.2.1) 16 U.2.2.2.2.2.2.2.1) 17 U.2.2.2.2.2.2.2.2.1) 18 U.2.2.2.2.2.2.2.2.2.1) 19 U.2.2.2.2.2.2.2.2.2.2.1) 20 U.2.2.2.2.2.2.2.2.2.2.2))
theorem k12_of {mi : Nat → Int32} {fm : Nat → Nat → Int32} {r2 : Int32} {mi2 : Nat → Int32} {fm2 : Nat → Nat → Int32} {U : Int32 × Int32 × Int32 × Int32 × Int32 × (Nat → Int32) × (Nat → Int32) × (Nat → Int32) × (Nat → Int32) × (Nat → Int32) × (Nat → Int32) × (Nat → Int32)} (hm : (r2, mi2, fm2) = mt12 mi fm U) : KPT mi fm mi2 fm2 ∧ r2 = U.1 := by
  unfold mt12 at hm
  simp only [Prod.mk.injEq] at hm
  obtain ⟨rfl, rfl, rfl⟩ := hm
  exact ⟨⟨fun k hk => by repeat rw [upd_ne (by omega)], ⟨rfl, rfl, rfl⟩, ⟨rfl, rfl⟩, fun k hk => by repeat rw [updF_ne (by omega)]⟩, rfl⟩
theorem r3_shifts {vx : Nat → Int32} {fx : Nat → Nat → Int32} {gx : Nat → Nat → Int64} {mi : Nat → Int32} {fm : Nat → Nat → Int32} (hM : MIp mi fm) (h : REL3 vx fx mi fm) {r r2 : Int32} {v : Nat → Int32} {f : Nat → Nat → Int32} {g : Nat → Nat → Int64} {mi2 : Nat → Int32} {fm2 : Nat → Nat → Int32} {p1 : Int32} (hx : (r, v, f, g) = xs_shifts vx fx gx p1) (hm : (r2, mi2, fm2) = ms_shifts mi fm p1) : REL3 v f mi2 fm2 ∧ r = r2 := by
  obtain ⟨O, hO⟩ : ∃ O, O = fX11_shifts (vx 4) (vx 60) (fx 18) (fx 19) (vx 49) (vx 50) (fx 8) (fx 9) (gx 1) (fx 10) (vx 51) (vx 52) (vx 53) (fx 11) (fx 12) (vx 11) (vx 12) (vx 13) (vx 15) (vx 16) (vx 17) (vx 19) (fx 22) (fx 23) (fx 24) (fx 25) (fx 26) (fx 27) (fx 28) (fx 29) p1 := ⟨_, rfl⟩
  obtain ⟨U, hU⟩ : ∃ U, U = fX12_shifts mi (fm 14) (fm 15) (fm 16) (fm 17) (fm 18) (fm 19) (fm 4) (fm 7) (fm 2) (fm 5) (fm 6) (fm 3) (fm 0) (fm 1) (fm 20) (fm 8) (fm 10) (fm 11) (fm 9) p1 := ⟨_, rfl⟩
  have hx : (r, v, f, g) = xt16 vx fx gx O := by
    rw [hx, hO]
    rfl
  have hm : (r2, mi2, fm2) = mt12 mi fm U := by
    rw [hm, hU]
    rfl
  obtain ⟨k1, k2⟩ := k12_of hm
  have hfin : ∀ s : Int32, O.1 = s → U.1 = s → oZ O.2.2.2.2.2.2.2.2.2.2.2.2.2.2.2 → (O.2.1 = 0 ∨ HT vx fx O.2.2.1 O.2.2.2.2.2.2.2.2.1 O.2.2.2.2.2.2.2.2.2.1) → REL3 v f mi2 fm2 ∧ r = r2 := by
    intro s s1 s2 a b
    obtain ⟨w1, w2⟩ := e16 h hx a b k1
    exact ⟨w1, w2.trans (s1.trans (s2.symm.trans k2.symm))⟩
  unfold fX11_shifts at hO
  unfold fX12_shifts bfX12_shifts_15 at hU
  obtain ⟨o1, e1, hO⟩ := cal_out hO
  by_cases n3 : mi 3 = 0
  · rw [if_pos n3] at hU
    have c1 : o1 = 0 := by
      by_cases c : o1 = 0
      · exact c
      · exact absurd n3 (nm_of h (p := p1) (e1 ▸ c))
    rw [if_pos c1] at hO
    refine hfin (-2) (by rw [hO]) (by rw [hU]) ?_ ?_
    · rw [hO]
      exact h.2.2.2.1.2
    · rw [hO]
      exact h.2.2.2.2.2.2
  rw [if_neg n3] at hU
  obtain ⟨u1, f1, hU⟩ := cal_out hU
  obtain ⟨a1, c1⟩ := bg_of h n3 p1
  rw [a1, ← f1] at e1
  rw [← f1] at c1
  rcases c1 with c1 | ⟨c1, b1, b2⟩
  · rw [if_pos (e1.trans c1)] at hO
    rw [if_pos c1] at hU
    refine hfin (-2) (by rw [hO]) (by rw [hU]) ?_ ?_
    · rw [hO]
      exact h.2.2.2.1.2
    · rw [hO]
      exact h.2.2.2.2.2.2
  rw [if_neg (by rw [e1, c1]; decide)] at hO
  rw [if_neg (by rw [c1]; decide)] at hU
  obtain ⟨hs, er, ql, tb, a, b, c, si, be, ve, qu, tu, bg, al, on, g1, g2, g3⟩ := hn_of (gx := gx) hM h n3
  obtain ⟨o2, e2, hO⟩ := cal_out hO
  rw [g1] at e2
  subst e2
  obtain ⟨E, E1, E2, E3, E4, E5, E6, E7⟩ := ht_of hM h n3 g3
  obtain ⟨_, ⟨_, d2, _⟩, _⟩ := ad_of hM h n3
  obtain ⟨u2, f2, hU⟩ := cal_out hU
  obtain ⟨o3, e3, hO⟩ := cal_out hO
  have s0 : ∀ e, e < E → ∀ of : Nat → Int32, (∀ j, j ≤ aM vx → of j = nI (aBg vx fx (tE (aN vx) (fx 28) (fx 29) e) j)) → ((-1 : Int32) = -1 ∧ of (p1).toNatClampNeg = (fun e => nI (aBg vx fx (tE (aN vx) (fx 28) (fx 29) e) p1.toNatClampNeg)) e) ∨ (¬ (-1 : Int32) = -1 ∧ fX12_dueBy (fm 8) (fm 10) (fm 11) (fm 9) of (-1 : Int32) = (fun e => nI (aBg vx fx (tE (aN vx) (fx 28) (fx 29) e) p1.toNatClampNeg)) e) := by
    intro e he of hof
    exact Or.inl ⟨rfl, hof _ b1⟩
  obtain ⟨a9, b9, y91, y92, y93, y94, y95, y96, y97, hf⟩ := fo_L (x1 := fm 14) (x2 := fm 15) (x3 := fm 16) (x4 := fm 17) (x5 := fm 18) (x6 := fm 19) (x7 := fm 20) (p1 := p1) (p2 := (-1 : Int32)) (val := (fun e => nI (aBg vx fx (tE (aN vx) (fx 28) (fx 29) e) p1.toNatClampNeg))) hM h n3 E2 E4 E5 s0 E 0 1000000000 (mi 37) (mi 41) (fm 14) (fm 15) (fm 16) (fm 17) (fm 18) (fm 19) (fm 20) (by omega) (by omega)
  have f2 : u2 = (a9, b9, (hcF (fun e => nI (aBg vx fx (tE (aN vx) (fx 28) (fx 29) e) p1.toNatClampNeg)) (tE (aN vx) (fx 28) (fx 29)) E).1, (hcF (fun e => nI (aBg vx fx (tE (aN vx) (fx 28) (fx 29) e) p1.toNatClampNeg)) (tE (aN vx) (fx 28) (fx 29)) E).2, y91, y92, y93, y94, y95, y96, y97) := f2.trans hf
  subst f2
  have hq : o3 = (hcF (fun e => nI (aBg vx fx (tE (aN vx) (fx 28) (fx 29) e) p1.toNatClampNeg)) (tE (aN vx) (fx 28) (fx 29)) E).1 := by
    rw [e3, E3, b2, nI_clamp (by omega)]
    exact co_L (be := be) (val := (fun e => nI (aBg vx fx (tE (aN vx) (fx 28) (fx 29) e) p1.toNatClampNeg))) (tt := tE (aN vx) (fx 28) (fx 29)) E2 (show p1.toNatClampNeg ≤ 24 by omega) (fun e he => E7 e he _ b1) (E - 1) 1 1000000000 (by omega) (by omega) (by omega)
  refine hfin o3 (by rw [hO]) (by rw [hU, hq]) ?_ (Or.inr ?_)
  · rw [hO]
    exact g2
  · rw [hO]
    exact g3
theorem r3_settled {vx : Nat → Int32} {fx : Nat → Nat → Int32} {gx : Nat → Nat → Int64} {mi : Nat → Int32} {fm : Nat → Nat → Int32} (hM : MIp mi fm) (h : REL3 vx fx mi fm) {r r2 : Int32} {v : Nat → Int32} {f : Nat → Nat → Int32} {g : Nat → Nat → Int64} {mi2 : Nat → Int32} {fm2 : Nat → Nat → Int32} {p1 : Int32} (hx : (r, v, f, g) = xs_settled vx fx gx p1) (hm : (r2, mi2, fm2) = ms_settled mi fm p1) : REL3 v f mi2 fm2 ∧ r = r2 := by
  obtain ⟨O, hO⟩ : ∃ O, O = fX11_settled (vx 4) (vx 60) (fx 18) (fx 19) (vx 49) (vx 50) (fx 8) (fx 9) (gx 1) (fx 10) (vx 51) (vx 52) (vx 53) (fx 11) (fx 12) (vx 11) (vx 12) (vx 13) (vx 15) (vx 16) (vx 17) (vx 19) (fx 22) (fx 23) (fx 24) (fx 25) (fx 26) (fx 27) (fx 28) (fx 29) p1 := ⟨_, rfl⟩
  obtain ⟨U, hU⟩ : ∃ U, U = fX12_settled mi (fm 14) (fm 15) (fm 16) (fm 17) (fm 18) (fm 19) (fm 4) (fm 7) (fm 2) (fm 5) (fm 6) (fm 3) (fm 0) (fm 1) (fm 20) (fm 8) (fm 10) (fm 11) (fm 9) p1 := ⟨_, rfl⟩
  have hx : (r, v, f, g) = xt16 vx fx gx O := by
    rw [hx, hO]
    rfl
  have hm : (r2, mi2, fm2) = mt12 mi fm U := by
    rw [hm, hU]
    rfl
  obtain ⟨k1, k2⟩ := k12_of hm
  have hfin : ∀ s : Int32, O.1 = s → U.1 = s → oZ O.2.2.2.2.2.2.2.2.2.2.2.2.2.2.2 → (O.2.1 = 0 ∨ HT vx fx O.2.2.1 O.2.2.2.2.2.2.2.2.1 O.2.2.2.2.2.2.2.2.2.1) → REL3 v f mi2 fm2 ∧ r = r2 := by
    intro s s1 s2 a b
    obtain ⟨w1, w2⟩ := e16 h hx a b k1
    exact ⟨w1, w2.trans (s1.trans (s2.symm.trans k2.symm))⟩
  unfold fX11_settled at hO
  unfold fX12_settled bfX12_settled_15 at hU
  obtain ⟨o1, e1, hO⟩ := cal_out hO
  by_cases n3 : mi 3 = 0
  · rw [if_pos n3] at hU
    have c1 : o1 = 0 := by
      by_cases c : o1 = 0
      · exact c
      · exact absurd n3 (nm_of h (p := p1) (e1 ▸ c))
    rw [if_pos c1] at hO
    refine hfin (-2) (by rw [hO]) (by rw [hU]) ?_ ?_
    · rw [hO]
      exact h.2.2.2.1.2
    · rw [hO]
      exact h.2.2.2.2.2.2
  rw [if_neg n3] at hU
  obtain ⟨u1, f1, hU⟩ := cal_out hU
  obtain ⟨a1, c1⟩ := bg_of h n3 p1
  rw [a1, ← f1] at e1
  rw [← f1] at c1
  rcases c1 with c1 | ⟨c1, b1, b2⟩
  · rw [if_pos (e1.trans c1)] at hO
    rw [if_pos c1] at hU
    refine hfin (-2) (by rw [hO]) (by rw [hU]) ?_ ?_
    · rw [hO]
      exact h.2.2.2.1.2
    · rw [hO]
      exact h.2.2.2.2.2.2
  rw [if_neg (by rw [e1, c1]; decide)] at hO
  rw [if_neg (by rw [c1]; decide)] at hU
  obtain ⟨hs, er, ql, tb, a, b, c, si, be, ve, qu, tu, bg, al, on, g1, g2, g3⟩ := hn_of (gx := gx) hM h n3
  obtain ⟨o2, e2, hO⟩ := cal_out hO
  rw [g1] at e2
  subst e2
  obtain ⟨E, E1, E2, E3, E4, E5, E6, E7⟩ := ht_of hM h n3 g3
  obtain ⟨_, ⟨_, d2, _⟩, _⟩ := ad_of hM h n3
  obtain ⟨u2, f2, hU⟩ := cal_out hU
  obtain ⟨o3, e3, hO⟩ := cal_out hO
  have s0 : ∀ e, e < E → ∀ of : Nat → Int32, (∀ j, j ≤ aM vx → of j = nI (aBg vx fx (tE (aN vx) (fx 28) (fx 29) e) j)) → ((-1 : Int32) = -1 ∧ of (p1).toNatClampNeg = (fun e => nI (aBg vx fx (tE (aN vx) (fx 28) (fx 29) e) p1.toNatClampNeg)) e) ∨ (¬ (-1 : Int32) = -1 ∧ fX12_dueBy (fm 8) (fm 10) (fm 11) (fm 9) of (-1 : Int32) = (fun e => nI (aBg vx fx (tE (aN vx) (fx 28) (fx 29) e) p1.toNatClampNeg)) e) := by
    intro e he of hof
    exact Or.inl ⟨rfl, hof _ b1⟩
  obtain ⟨a9, b9, y91, y92, y93, y94, y95, y96, y97, hf⟩ := fo_L (x1 := fm 14) (x2 := fm 15) (x3 := fm 16) (x4 := fm 17) (x5 := fm 18) (x6 := fm 19) (x7 := fm 20) (p1 := p1) (p2 := (-1 : Int32)) (val := (fun e => nI (aBg vx fx (tE (aN vx) (fx 28) (fx 29) e) p1.toNatClampNeg))) hM h n3 E2 E4 E5 s0 E 0 1000000000 (mi 37) (mi 41) (fm 14) (fm 15) (fm 16) (fm 17) (fm 18) (fm 19) (fm 20) (by omega) (by omega)
  have f2 : u2 = (a9, b9, (hcF (fun e => nI (aBg vx fx (tE (aN vx) (fx 28) (fx 29) e) p1.toNatClampNeg)) (tE (aN vx) (fx 28) (fx 29)) E).1, (hcF (fun e => nI (aBg vx fx (tE (aN vx) (fx 28) (fx 29) e) p1.toNatClampNeg)) (tE (aN vx) (fx 28) (fx 29)) E).2, y91, y92, y93, y94, y95, y96, y97) := f2.trans hf
  subst f2
  have hq : o3 = (hcF (fun e => nI (aBg vx fx (tE (aN vx) (fx 28) (fx 29) e) p1.toNatClampNeg)) (tE (aN vx) (fx 28) (fx 29)) E).2 := by
    obtain ⟨d, rfl⟩ : ∃ d, E = d + 1 := ⟨E - 1, by omega⟩
    rw [e3, E3, b2, nI_clamp (by omega)]
    unfold fX4_lastChangeOf
    rw [nI_pred]
    exact lc_L (si := si) (be := be) (val := (fun e => nI (aBg vx fx (tE (aN vx) (fx 28) (fx 29) e) p1.toNatClampNeg))) (tt := tE (aN vx) (fx 28) (fx 29)) E2 (show p1.toNatClampNeg ≤ 24 by omega) (fun e he => E7 e he _ b1) E6 d 1000000000 (by omega) (by omega)
  refine hfin o3 (by rw [hO]) (by rw [hU, hq]) ?_ (Or.inr ?_)
  · rw [hO]
    exact g2
  · rw [hO]
    exact g3
theorem r3_redated {vx : Nat → Int32} {fx : Nat → Nat → Int32} {gx : Nat → Nat → Int64} {mi : Nat → Int32} {fm : Nat → Nat → Int32} (hM : MIp mi fm) (h : REL3 vx fx mi fm) {r r2 : Int32} {v : Nat → Int32} {f : Nat → Nat → Int32} {g : Nat → Nat → Int64} {mi2 : Nat → Int32} {fm2 : Nat → Nat → Int32} {p1 : Int32} (hx : (r, v, f, g) = xs_redated vx fx gx p1) (hm : (r2, mi2, fm2) = ms_redated mi fm p1) : REL3 v f mi2 fm2 ∧ r = r2 := by
  obtain ⟨O, hO⟩ : ∃ O, O = fX11_redated (vx 4) (vx 60) (fx 18) (fx 19) (vx 49) (vx 50) (fx 8) (fx 9) (gx 1) (fx 10) (vx 51) (vx 52) (vx 53) (fx 11) (fx 12) (vx 11) (vx 12) (vx 13) (vx 15) (vx 16) (vx 17) (vx 19) (vx 20) (fx 22) (fx 23) (fx 24) (fx 25) (fx 26) (fx 27) (fx 28) (fx 29) (fx 30) (fx 31) (fx 32) (fx 33) p1 := ⟨_, rfl⟩
  obtain ⟨U, hU⟩ : ∃ U, U = fX12_redated mi (fm 14) (fm 15) (fm 16) (fm 17) (fm 18) (fm 19) (fm 4) (fm 7) (fm 2) (fm 5) (fm 6) (fm 3) (fm 0) (fm 1) (fm 20) (fm 8) (fm 10) (fm 11) (fm 9) p1 := ⟨_, rfl⟩
  have hx : (r, v, f, g) = xt16 vx fx gx O := by
    rw [hx, hO]
    rfl
  have hm : (r2, mi2, fm2) = mt12 mi fm U := by
    rw [hm, hU]
    rfl
  obtain ⟨k1, k2⟩ := k12_of hm
  have hfin : ∀ s : Int32, O.1 = s → U.1 = s → oZ O.2.2.2.2.2.2.2.2.2.2.2.2.2.2.2 → (O.2.1 = 0 ∨ HT vx fx O.2.2.1 O.2.2.2.2.2.2.2.2.1 O.2.2.2.2.2.2.2.2.2.1) → REL3 v f mi2 fm2 ∧ r = r2 := by
    intro s s1 s2 a b
    obtain ⟨w1, w2⟩ := e16 h hx a b k1
    exact ⟨w1, w2.trans (s1.trans (s2.symm.trans k2.symm))⟩
  unfold fX11_redated bfX11_redated_32 at hO
  unfold fX12_redated at hU
  obtain ⟨o1, e1, hO⟩ := cal_out hO
  obtain ⟨u1, f1, hU⟩ := cal_out hU
  obtain ⟨a1, c1⟩ := dd_of h p1
  rw [a1, ← f1] at e1
  rw [← f1] at c1
  rcases c1 with c1 | ⟨c1, z4, z9, ⟨g8, g9, g10, g11⟩, da, dd, dl, y1, y2, y3, y4, y5, y6, y7⟩
  · rw [if_pos (e1.trans c1)] at hO
    rw [if_pos c1] at hU
    refine hfin (-2) (by rw [hO]) (by rw [hU]) ?_ ?_
    · rw [hO]
      exact h.2.2.2.1.2
    · rw [hO]
      exact h.2.2.2.2.2.2
  rw [if_neg (by rw [e1, c1]; decide)] at hO
  rw [if_neg (by rw [c1]; decide)] at hU
  have n3 : ¬ mi 3 = 0 := nd_of h (p := p1) (by rw [a1, ← f1, c1]; decide)
  obtain ⟨hs, er, ql, tb, a, b, c, si, be, ve, qu, tu, bg, al, on, g1, g2, g3⟩ := hn_of (gx := gx) hM h n3
  obtain ⟨o2, e2, hO⟩ := cal_out hO
  rw [g1] at e2
  subst e2
  obtain ⟨E, E1, E2, E3, E4, E5, E6, E7⟩ := ht_of hM h n3 g3
  obtain ⟨_, ⟨_, d2, _⟩, _⟩ := ad_of hM h n3
  obtain ⟨u2, f2, hU⟩ := cal_out hU
  obtain ⟨o3, e3, hO⟩ := cal_out hO
  obtain ⟨o4, e4, hO⟩ := cal_out hO
  obtain ⟨A, hA, hA2⟩ : ∃ A : Nat, o3 = nI A ∧ A ≤ aM vx := by
    rw [e3]
    unfold fX2_endAnchor bfX2_endAnchor_23 fX11_anchorOf bfX11_anchorOf_13
    rw [y1, y2, y3, cal_b, cal_b]
    rcases y7 with ⟨q, q2⟩ | ⟨q, q2⟩
    · rw [if_pos q, nI_add, nI_1]
      split
      · exact ⟨_, rfl, by omega⟩
      · exact ⟨_, rfl, by omega⟩
    · rw [if_neg (by rw [q]; decide), nI_1]
      split
      · exact ⟨_, rfl, by omega⟩
      · exact ⟨_, rfl, by omega⟩
  have s0 : ∀ e, e < E → ∀ of : Nat → Int32, (∀ j, j ≤ aM vx → of j = nI (aBg vx fx (tE (aN vx) (fx 28) (fx 29) e) j)) → (p1 = -1 ∧ of ((0 : Int32)).toNatClampNeg = (fun e => nI (aBg vx fx (tE (aN vx) (fx 28) (fx 29) e) A) + fX2_endOffset (fx 31 p1.toNatClampNeg) (fx 32 p1.toNatClampNeg) (fx 33 p1.toNatClampNeg)) e) ∨ (¬ p1 = -1 ∧ fX12_dueBy (fm 8) (fm 10) (fm 11) (fm 9) of p1 = (fun e => nI (aBg vx fx (tE (aN vx) (fx 28) (fx 29) e) A) + fX2_endOffset (fx 31 p1.toNatClampNeg) (fx 32 p1.toNatClampNeg) (fx 33 p1.toNatClampNeg)) e) := by
    intro e he of hof
    refine Or.inr ⟨by rw [z4]; exact nIm1 (by omega), ?_⟩
    obtain ⟨w1, w2⟩ := bg_facts hM h n3 (tE (aN vx) (fx 28) (fx 29) e)
    have hd := du_eq (of := of) (bg := fun j => nI (aBg vx fx (tE (aN vx) (fx 28) (fx 29) e) j)) (x0 := fx 30) (x1 := fx 31) (x2 := fx 32) (x3 := fx 33) (y0 := fm 8) (y1 := fm 9) (y2 := fm 10) (y3 := fm 11) (b := aBg vx fx (tE (aN vx) (fx 28) (fx 29) e)) (M := aM vx) (p := p1.toNatClampNeg) d2 hof (fun _ _ => rfl) w2 (fun m hm => by have := w1 m hm; omega) z9 g8 g9 g10 g11 y1 y2 y3 y4 y5 y6 y7
    rw [← z4, ← e3, hA, nI_clamp (by omega)] at hd
    exact hd
  obtain ⟨a9, b9, y91, y92, y93, y94, y95, y96, y97, hf⟩ := fo_L (x1 := fm 14) (x2 := fm 15) (x3 := fm 16) (x4 := fm 17) (x5 := fm 18) (x6 := fm 19) (x7 := fm 20) (p1 := (0 : Int32)) (p2 := p1) (val := (fun e => nI (aBg vx fx (tE (aN vx) (fx 28) (fx 29) e) A) + fX2_endOffset (fx 31 p1.toNatClampNeg) (fx 32 p1.toNatClampNeg) (fx 33 p1.toNatClampNeg))) hM h n3 E2 E4 E5 s0 E 0 1000000000 (mi 37) (mi 41) (fm 14) (fm 15) (fm 16) (fm 17) (fm 18) (fm 19) (fm 20) (by omega) (by omega)
  have f2 : u2 = (a9, b9, (hcF (fun e => nI (aBg vx fx (tE (aN vx) (fx 28) (fx 29) e) A) + fX2_endOffset (fx 31 p1.toNatClampNeg) (fx 32 p1.toNatClampNeg) (fx 33 p1.toNatClampNeg)) (tE (aN vx) (fx 28) (fx 29)) E).1, (hcF (fun e => nI (aBg vx fx (tE (aN vx) (fx 28) (fx 29) e) A) + fX2_endOffset (fx 31 p1.toNatClampNeg) (fx 32 p1.toNatClampNeg) (fx 33 p1.toNatClampNeg)) (tE (aN vx) (fx 28) (fx 29)) E).2, y91, y92, y93, y94, y95, y96, y97) := f2.trans hf
  subst f2
  have hcc : hcF (fun e => nI (aBg vx fx (tE (aN vx) (fx 28) (fx 29) e) A) + fX2_endOffset (fx 31 p1.toNatClampNeg) (fx 32 p1.toNatClampNeg) (fx 33 p1.toNatClampNeg)) (tE (aN vx) (fx 28) (fx 29)) E = hcF (fun e => nI (aBg vx fx (tE (aN vx) (fx 28) (fx 29) e) A)) (tE (aN vx) (fx 28) (fx 29)) E := hcF_cong E (fun i _ _ => ⟨fun q => (Int32.add_left_inj _).1 q, fun q => congrArg (· + fX2_endOffset (fx 31 p1.toNatClampNeg) (fx 32 p1.toNatClampNeg) (fx 33 p1.toNatClampNeg)) q⟩)
  have hq : o4 = (hcF (fun e => nI (aBg vx fx (tE (aN vx) (fx 28) (fx 29) e) A) + fX2_endOffset (fx 31 p1.toNatClampNeg) (fx 32 p1.toNatClampNeg) (fx 33 p1.toNatClampNeg)) (tE (aN vx) (fx 28) (fx 29)) E).1 := by
    rw [e4, hA, E3, hcc]
    exact co_L (be := be) (val := (fun e => nI (aBg vx fx (tE (aN vx) (fx 28) (fx 29) e) A))) (tt := tE (aN vx) (fx 28) (fx 29)) E2 (show A ≤ 24 by omega) (fun e he => E7 e he A hA2) (E - 1) 1 1000000000 (by omega) (by omega) (by omega)
  refine hfin o4 (by rw [hO]) (by rw [hU, hq]) ?_ (Or.inr ?_)
  · rw [hO]
    exact g2
  · rw [hO]
    exact g3
def REL (vx : Nat → Int32) (fx : Nat → Nat → Int32) (gx : Nat → Nat → Int64) (mi : Nat → Int32) (fm : Nat → Nat → Int32) : Prop := REL3 vx fx mi fm
theorem mip_of {mi : Nat → Int32} {fm : Nat → Nat → Int32} (hMI : MI mi fm) : MIp mi fm := ⟨hMI.2.2.2.2.2.2.2.2.2.2.2.2.2.2.2.2.2.2.2.2.2.2.1, hMI.2.2.2.2.2.2.2.2.2.2.2.2.2.2.2.2.2.2.2.2.2.2.2.1, hMI.2.2.2.2.2.2.2.2.2.2.2.2.2.2.2.2.2.2.2.2.2.2.2.2.2.2.2.2⟩
theorem pr_feed {vx : Nat → Int32} {fx : Nat → Nat → Int32} {gx : Nat → Nat → Int64} {mi : Nat → Int32} {fm : Nat → Nat → Int32} (hXI : XI vx fx) (hMI : MI mi fm) (h : REL vx fx gx mi fm) {r r2 : Int32} {v : Nat → Int32} {f : Nat → Nat → Int32} {g : Nat → Nat → Int64} {mi2 : Nat → Int32} {fm2 : Nat → Nat → Int32} {p1 p2 p3 p4 p5 : Int32} (hx : (r, v, f, g) = xs_feed vx fx gx p1 p2 p3 p4 p5) (hm : (r2, mi2, fm2) = ms_feed mi fm p1 p2 p3 p4 p5) : REL v f g mi2 fm2 ∧ r = r2 := r3_feed h hx hm
theorem pr_end {vx : Nat → Int32} {fx : Nat → Nat → Int32} {gx : Nat → Nat → Int64} {mi : Nat → Int32} {fm : Nat → Nat → Int32} (hXI : XI vx fx) (hMI : MI mi fm) (h : REL vx fx gx mi fm) {r r2 : Int32} {v : Nat → Int32} {f : Nat → Nat → Int32} {g : Nat → Nat → Int64} {mi2 : Nat → Int32} {fm2 : Nat → Nat → Int32} {p1 : Int32} (hx : (r, v, f, g) = xs_end vx fx gx p1) (hm : (r2, mi2, fm2) = ms_end mi fm p1) : REL v f g mi2 fm2 ∧ r = r2 := r3_end h hx hm
theorem pr_almanac {vx : Nat → Int32} {fx : Nat → Nat → Int32} {gx : Nat → Nat → Int64} {mi : Nat → Int32} {fm : Nat → Nat → Int32} (hXI : XI vx fx) (hMI : MI mi fm) (h : REL vx fx gx mi fm) {r r2 : Int32} {v : Nat → Int32} {f : Nat → Nat → Int32} {g : Nat → Nat → Int64} {mi2 : Nat → Int32} {fm2 : Nat → Nat → Int32} (hx : (r, v, f, g) = xs_almanac vx fx gx) (hm : (r2, mi2, fm2) = ms_almanac mi fm) : REL v f g mi2 fm2 ∧ r = r2 := r3_almanac h (bz_cases hMI.2.2.2.1) (fun i hi => bz_cases (hMI.2.2.2.2.2.2.2.2.2.2.2.2.2.2.2.2.2.2.2.2.1 i hi)) hx hm
theorem pr_fault {vx : Nat → Int32} {fx : Nat → Nat → Int32} {gx : Nat → Nat → Int64} {mi : Nat → Int32} {fm : Nat → Nat → Int32} (hXI : XI vx fx) (hMI : MI mi fm) (h : REL vx fx gx mi fm) {r r2 : Int32} {v : Nat → Int32} {f : Nat → Nat → Int32} {g : Nat → Nat → Int64} {mi2 : Nat → Int32} {fm2 : Nat → Nat → Int32} {p1 : Int32} (hx : (r, v, f, g) = xs_fault vx fx gx p1) (hm : (r2, mi2, fm2) = ms_fault mi fm p1) : REL v f g mi2 fm2 ∧ r = r2 := r3_fault h hx hm
theorem pr_count {vx : Nat → Int32} {fx : Nat → Nat → Int32} {gx : Nat → Nat → Int64} {mi : Nat → Int32} {fm : Nat → Nat → Int32} (hXI : XI vx fx) (hMI : MI mi fm) (h : REL vx fx gx mi fm) {r r2 : Int32} {v : Nat → Int32} {f : Nat → Nat → Int32} {g : Nat → Nat → Int64} {mi2 : Nat → Int32} {fm2 : Nat → Nat → Int32} {p1 : Int32} (hx : (r, v, f, g) = xs_count vx fx gx p1) (hm : (r2, mi2, fm2) = ms_count mi fm p1) : REL v f g mi2 fm2 ∧ r = r2 := r3_count h hx hm
theorem pr_place {vx : Nat → Int32} {fx : Nat → Nat → Int32} {gx : Nat → Nat → Int64} {mi : Nat → Int32} {fm : Nat → Nat → Int32} (hXI : XI vx fx) (hMI : MI mi fm) (h : REL vx fx gx mi fm) {r r2 : Int32} {v : Nat → Int32} {f : Nat → Nat → Int32} {g : Nat → Nat → Int64} {mi2 : Nat → Int32} {fm2 : Nat → Nat → Int32} {p1 p2 : Int32} (hx : (r, v, f, g) = xs_place vx fx gx p1 p2) (hm : (r2, mi2, fm2) = ms_place mi fm p1 p2) : REL v f g mi2 fm2 ∧ r = r2 := r3_place h (fun i hi => bz_cases (hXI.2.2.2.2.2.2.2.2.2.2.2.2.2.2.2.2.2.2.2.2.2.2.2.2.2.2.2.2.2.2.2.2.2.2.2.2.2.2.2.2.2.2.2.2.2.2.2.2.2.2.2.2.2.2.1 i hi)) hx hm
theorem pr_report {vx : Nat → Int32} {fx : Nat → Nat → Int32} {gx : Nat → Nat → Int64} {mi : Nat → Int32} {fm : Nat → Nat → Int32} (hXI : XI vx fx) (hMI : MI mi fm) (h : REL vx fx gx mi fm) {r r2 : Int32} {v : Nat → Int32} {f : Nat → Nat → Int32} {g : Nat → Nat → Int64} {mi2 : Nat → Int32} {fm2 : Nat → Nat → Int32} {p1 p2 : Int32} (hx : (r, v, f, g) = xs_report vx fx gx p1 p2) (hm : (r2, mi2, fm2) = ms_report mi fm p1 p2) : REL v f g mi2 fm2 ∧ r = r2 := r3_report h (fun i hi => bz_cases (hXI.2.2.2.2.2.2.2.2.2.2.2.2.2.2.2.2.2.2.2.2.2.2.2.2.2.2.2.2.2.2.2.2.2.2.2.2.2.2.2.2.2.2.2.2.2.2.2.2.2.2.2.2.2.2.1 i hi)) hx hm
theorem pr_deed {vx : Nat → Int32} {fx : Nat → Nat → Int32} {gx : Nat → Nat → Int64} {mi : Nat → Int32} {fm : Nat → Nat → Int32} (hXI : XI vx fx) (hMI : MI mi fm) (h : REL vx fx gx mi fm) {r r2 : Int32} {v : Nat → Int32} {f : Nat → Nat → Int32} {g : Nat → Nat → Int64} {mi2 : Nat → Int32} {fm2 : Nat → Nat → Int32} {p1 p2 : Int32} (hx : (r, v, f, g) = xs_deed vx fx gx p1 p2) (hm : (r2, mi2, fm2) = ms_deed mi fm p1 p2) : REL v f g mi2 fm2 ∧ r = r2 := r3_deed h (fun i hi => bz_cases (hXI.2.2.2.2.2.2.2.2.2.2.2.2.2.2.2.2.2.2.2.2.2.2.2.2.2.2.2.2.2.2.2.2.2.2.2.2.2.2.2.2.2.2.2.2.2.2.2.2.2.2.2.2.2.2.1 i hi)) hx hm
theorem pr_early {vx : Nat → Int32} {fx : Nat → Nat → Int32} {gx : Nat → Nat → Int64} {mi : Nat → Int32} {fm : Nat → Nat → Int32} (hXI : XI vx fx) (hMI : MI mi fm) (h : REL vx fx gx mi fm) {r r2 : Int32} {v : Nat → Int32} {f : Nat → Nat → Int32} {g : Nat → Nat → Int64} {mi2 : Nat → Int32} {fm2 : Nat → Nat → Int32} {p1 : Int32} (hx : (r, v, f, g) = xs_early vx fx gx p1) (hm : (r2, mi2, fm2) = ms_early mi fm p1) : REL v f g mi2 fm2 ∧ r = r2 := r3_early h (fun i hi => bz_cases (hXI.2.2.2.2.2.2.2.2.2.2.2.2.2.2.2.2.2.2.2.2.2.2.2.2.2.2.2.2.2.2.2.2.2.2.2.2.2.2.2.2.2.2.2.2.2.2.2.2.2.2.2.2.2.2.1 i hi)) hx hm
theorem pr_judged {vx : Nat → Int32} {fx : Nat → Nat → Int32} {gx : Nat → Nat → Int64} {mi : Nat → Int32} {fm : Nat → Nat → Int32} (hXI : XI vx fx) (hMI : MI mi fm) (h : REL vx fx gx mi fm) {r r2 : Int32} {v : Nat → Int32} {f : Nat → Nat → Int32} {g : Nat → Nat → Int64} {mi2 : Nat → Int32} {fm2 : Nat → Nat → Int32} {p1 p2 : Int32} (hx : (r, v, f, g) = xs_judged vx fx gx p1 p2) (hm : (r2, mi2, fm2) = ms_judged mi fm p1 p2) : REL v f g mi2 fm2 ∧ r = r2 := r3_judged (mip_of hMI) h hx hm
theorem pr_taken {vx : Nat → Int32} {fx : Nat → Nat → Int32} {gx : Nat → Nat → Int64} {mi : Nat → Int32} {fm : Nat → Nat → Int32} (hXI : XI vx fx) (hMI : MI mi fm) (h : REL vx fx gx mi fm) {r r2 : Int32} {v : Nat → Int32} {f : Nat → Nat → Int32} {g : Nat → Nat → Int64} {mi2 : Nat → Int32} {fm2 : Nat → Nat → Int32} {p1 : Int32} (hx : (r, v, f, g) = xs_taken vx fx gx p1) (hm : (r2, mi2, fm2) = ms_taken mi fm p1) : REL v f g mi2 fm2 ∧ r = r2 := r3_taken (mip_of hMI) h hx hm
theorem pr_order {vx : Nat → Int32} {fx : Nat → Nat → Int32} {gx : Nat → Nat → Int64} {mi : Nat → Int32} {fm : Nat → Nat → Int32} (hXI : XI vx fx) (hMI : MI mi fm) (h : REL vx fx gx mi fm) {r r2 : Int32} {v : Nat → Int32} {f : Nat → Nat → Int32} {g : Nat → Nat → Int64} {mi2 : Nat → Int32} {fm2 : Nat → Nat → Int32} {p1 p2 : Int32} (hx : (r, v, f, g) = xs_order vx fx gx p1 p2) (hm : (r2, mi2, fm2) = ms_order mi fm p1 p2) : REL v f g mi2 fm2 ∧ r = r2 := r3_order (mip_of hMI) h hx hm
theorem pr_against {vx : Nat → Int32} {fx : Nat → Nat → Int32} {gx : Nat → Nat → Int64} {mi : Nat → Int32} {fm : Nat → Nat → Int32} (hXI : XI vx fx) (hMI : MI mi fm) (h : REL vx fx gx mi fm) {r r2 : Int32} {v : Nat → Int32} {f : Nat → Nat → Int32} {g : Nat → Nat → Int64} {mi2 : Nat → Int32} {fm2 : Nat → Nat → Int32} {p1 p2 : Int32} (hx : (r, v, f, g) = xs_against vx fx gx p1 p2) (hm : (r2, mi2, fm2) = ms_against mi fm p1 p2) : REL v f g mi2 fm2 ∧ r = r2 := r3_against (mip_of hMI) h hx hm
theorem pr_blind {vx : Nat → Int32} {fx : Nat → Nat → Int32} {gx : Nat → Nat → Int64} {mi : Nat → Int32} {fm : Nat → Nat → Int32} (hXI : XI vx fx) (hMI : MI mi fm) (h : REL vx fx gx mi fm) {r r2 : Int32} {v : Nat → Int32} {f : Nat → Nat → Int32} {g : Nat → Nat → Int64} {mi2 : Nat → Int32} {fm2 : Nat → Nat → Int32} {p1 p2 : Int32} (hx : (r, v, f, g) = xs_blind vx fx gx p1 p2) (hm : (r2, mi2, fm2) = ms_blind mi fm p1 p2) : REL v f g mi2 fm2 ∧ r = r2 := r3_blind h (fun i hi => bz_cases (hXI.2.2.2.2.2.2.2.2.2.2.2.2.2.2.2.2.2.2.2.2.2.2.2.2.2.2.2.2.2.2.2.2.2.2.2.2.2.2.2.2.2.2.2.2.2.2.2.2.2.2.2.2.2.2.1 i hi)) hx hm
theorem pr_ways {vx : Nat → Int32} {fx : Nat → Nat → Int32} {gx : Nat → Nat → Int64} {mi : Nat → Int32} {fm : Nat → Nat → Int32} (hXI : XI vx fx) (hMI : MI mi fm) (h : REL vx fx gx mi fm) {r r2 : Int32} {v : Nat → Int32} {f : Nat → Nat → Int32} {g : Nat → Nat → Int64} {mi2 : Nat → Int32} {fm2 : Nat → Nat → Int32} {p1 : Int32} (hx : (r, v, f, g) = xs_ways vx fx gx p1) (hm : (r2, mi2, fm2) = ms_ways mi fm p1) : REL v f g mi2 fm2 := p3_ways (mip_of hMI) h hx hm
theorem pr_begin {vx : Nat → Int32} {fx : Nat → Nat → Int32} {gx : Nat → Nat → Int64} {mi : Nat → Int32} {fm : Nat → Nat → Int32} (hXI : XI vx fx) (hMI : MI mi fm) (h : REL vx fx gx mi fm) {r r2 : Int32} {v : Nat → Int32} {f : Nat → Nat → Int32} {g : Nat → Nat → Int64} {mi2 : Nat → Int32} {fm2 : Nat → Nat → Int32} {p1 p2 : Int32} (hx : (r, v, f, g) = xs_begin vx fx gx p1 p2) (hm : (r2, mi2, fm2) = ms_begin mi fm p1 p2) : REL v f g mi2 fm2 ∧ r = r2 := r3_begin (mip_of hMI) h hx hm
theorem pr_span {vx : Nat → Int32} {fx : Nat → Nat → Int32} {gx : Nat → Nat → Int64} {mi : Nat → Int32} {fm : Nat → Nat → Int32} (hXI : XI vx fx) (hMI : MI mi fm) (h : REL vx fx gx mi fm) {r r2 : Int32} {v : Nat → Int32} {f : Nat → Nat → Int32} {g : Nat → Nat → Int64} {mi2 : Nat → Int32} {fm2 : Nat → Nat → Int32} {p1 p2 p3 : Int32} (hx : (r, v, f, g) = xs_span vx fx gx p1 p2 p3) (hm : (r2, mi2, fm2) = ms_span mi fm p1 p2 p3) : REL v f g mi2 fm2 := p3_span (mip_of hMI) h hx hm
theorem pr_sure {vx : Nat → Int32} {fx : Nat → Nat → Int32} {gx : Nat → Nat → Int64} {mi : Nat → Int32} {fm : Nat → Nat → Int32} (hXI : XI vx fx) (hMI : MI mi fm) (h : REL vx fx gx mi fm) {r r2 : Int32} {v : Nat → Int32} {f : Nat → Nat → Int32} {g : Nat → Nat → Int64} {mi2 : Nat → Int32} {fm2 : Nat → Nat → Int32} {p1 : Int32} (hx : (r, v, f, g) = xs_sure vx fx gx p1) (hm : (r2, mi2, fm2) = ms_sure mi fm p1) : REL v f g mi2 fm2 := p3_sure (mip_of hMI) h hx hm
theorem pr_lasts {vx : Nat → Int32} {fx : Nat → Nat → Int32} {gx : Nat → Nat → Int64} {mi : Nat → Int32} {fm : Nat → Nat → Int32} (hXI : XI vx fx) (hMI : MI mi fm) (h : REL vx fx gx mi fm) {r r2 : Int32} {v : Nat → Int32} {f : Nat → Nat → Int32} {g : Nat → Nat → Int64} {mi2 : Nat → Int32} {fm2 : Nat → Nat → Int32} {p1 p2 : Int32} (hx : (r, v, f, g) = xs_lasts vx fx gx p1 p2) (hm : (r2, mi2, fm2) = ms_lasts mi fm p1 p2) : REL v f g mi2 fm2 ∧ r = r2 := r3_lasts (mip_of hMI) h hx hm
theorem pr_could {vx : Nat → Int32} {fx : Nat → Nat → Int32} {gx : Nat → Nat → Int64} {mi : Nat → Int32} {fm : Nat → Nat → Int32} (hXI : XI vx fx) (hMI : MI mi fm) (h : REL vx fx gx mi fm) {r r2 : Int32} {v : Nat → Int32} {f : Nat → Nat → Int32} {g : Nat → Nat → Int64} {mi2 : Nat → Int32} {fm2 : Nat → Nat → Int32} {p1 p2 p3 : Int32} (hx : (r, v, f, g) = xs_could vx fx gx p1 p2 p3) (hm : (r2, mi2, fm2) = ms_could mi fm p1 p2 p3) : REL v f g mi2 fm2 := p3_could (mip_of hMI) h hx hm
theorem pr_lean {vx : Nat → Int32} {fx : Nat → Nat → Int32} {gx : Nat → Nat → Int64} {mi : Nat → Int32} {fm : Nat → Nat → Int32} (hXI : XI vx fx) (hMI : MI mi fm) (h : REL vx fx gx mi fm) {r r2 : Int32} {v : Nat → Int32} {f : Nat → Nat → Int32} {g : Nat → Nat → Int64} {mi2 : Nat → Int32} {fm2 : Nat → Nat → Int32} {p1 p2 : Int32} (hx : (r, v, f, g) = xs_lean vx fx gx p1 p2) (hm : (r2, mi2, fm2) = ms_lean mi fm p1 p2) : REL v f g mi2 fm2 := p3_lean (mip_of hMI) h hx hm
theorem pr_ranked {vx : Nat → Int32} {fx : Nat → Nat → Int32} {gx : Nat → Nat → Int64} {mi : Nat → Int32} {fm : Nat → Nat → Int32} (hXI : XI vx fx) (hMI : MI mi fm) (h : REL vx fx gx mi fm) {r r2 : Int32} {v : Nat → Int32} {f : Nat → Nat → Int32} {g : Nat → Nat → Int64} {mi2 : Nat → Int32} {fm2 : Nat → Nat → Int32} {p1 p2 p3 : Int32} (hx : (r, v, f, g) = xs_ranked vx fx gx p1 p2 p3) (hm : (r2, mi2, fm2) = ms_ranked mi fm p1 p2 p3) : REL v f g mi2 fm2 := p3_ranked (mip_of hMI) h hx hm
theorem pr_rank {vx : Nat → Int32} {fx : Nat → Nat → Int32} {gx : Nat → Nat → Int64} {mi : Nat → Int32} {fm : Nat → Nat → Int32} (hXI : XI vx fx) (hMI : MI mi fm) (h : REL vx fx gx mi fm) {r r2 : Int32} {v : Nat → Int32} {f : Nat → Nat → Int32} {g : Nat → Nat → Int64} {mi2 : Nat → Int32} {fm2 : Nat → Nat → Int32} {p1 p2 : Int32} (hx : (r, v, f, g) = xs_rank vx fx gx p1 p2) (hm : (r2, mi2, fm2) = ms_rank mi fm p1 p2) : REL v f g mi2 fm2 := p3_rank (mip_of hMI) h hx hm
theorem pr_drawn {vx : Nat → Int32} {fx : Nat → Nat → Int32} {gx : Nat → Nat → Int64} {mi : Nat → Int32} {fm : Nat → Nat → Int32} (hXI : XI vx fx) (hMI : MI mi fm) (h : REL vx fx gx mi fm) {r r2 : Int32} {v : Nat → Int32} {f : Nat → Nat → Int32} {g : Nat → Nat → Int64} {mi2 : Nat → Int32} {fm2 : Nat → Nat → Int32} {p1 p2 : Int32} (hx : (r, v, f, g) = xs_drawn vx fx gx p1 p2) (hm : (r2, mi2, fm2) = ms_drawn mi fm p1 p2) : REL v f g mi2 fm2 := p3_drawn (mip_of hMI) h hx hm
theorem pr_day {vx : Nat → Int32} {fx : Nat → Nat → Int32} {gx : Nat → Nat → Int64} {mi : Nat → Int32} {fm : Nat → Nat → Int32} (hXI : XI vx fx) (hMI : MI mi fm) (h : REL vx fx gx mi fm) {r r2 : Int32} {v : Nat → Int32} {f : Nat → Nat → Int32} {g : Nat → Nat → Int64} {mi2 : Nat → Int32} {fm2 : Nat → Nat → Int32} {p1 p2 p3 : Int32} (hx : (r, v, f, g) = xs_day vx fx gx p1 p2 p3) (hm : (r2, mi2, fm2) = ms_day mi fm p1 p2 p3) : REL v f g mi2 fm2 ∧ r = r2 := r3_day (mip_of hMI) h hx hm
theorem pr_date {vx : Nat → Int32} {fx : Nat → Nat → Int32} {gx : Nat → Nat → Int64} {mi : Nat → Int32} {fm : Nat → Nat → Int32} (hXI : XI vx fx) (hMI : MI mi fm) (h : REL vx fx gx mi fm) {r r2 : Int32} {v : Nat → Int32} {f : Nat → Nat → Int32} {g : Nat → Nat → Int64} {mi2 : Nat → Int32} {fm2 : Nat → Nat → Int32} {p1 p2 : Int32} (hx : (r, v, f, g) = xs_date vx fx gx p1 p2) (hm : (r2, mi2, fm2) = ms_date mi fm p1 p2) : REL v f g mi2 fm2 ∧ r = r2 := r3_date (mip_of hMI) h hx hm
theorem pr_dates {vx : Nat → Int32} {fx : Nat → Nat → Int32} {gx : Nat → Nat → Int64} {mi : Nat → Int32} {fm : Nat → Nat → Int32} (hXI : XI vx fx) (hMI : MI mi fm) (h : REL vx fx gx mi fm) {r r2 : Int32} {v : Nat → Int32} {f : Nat → Nat → Int32} {g : Nat → Nat → Int64} {mi2 : Nat → Int32} {fm2 : Nat → Nat → Int32} {p1 p2 : Int32} (hx : (r, v, f, g) = xs_dates vx fx gx p1 p2) (hm : (r2, mi2, fm2) = ms_dates mi fm p1 p2) : REL v f g mi2 fm2 := p3_dates (mip_of hMI) h hx hm
theorem pr_likely {vx : Nat → Int32} {fx : Nat → Nat → Int32} {gx : Nat → Nat → Int64} {mi : Nat → Int32} {fm : Nat → Nat → Int32} (hXI : XI vx fx) (hMI : MI mi fm) (h : REL vx fx gx mi fm) {r r2 : Int32} {v : Nat → Int32} {f : Nat → Nat → Int32} {g : Nat → Nat → Int64} {mi2 : Nat → Int32} {fm2 : Nat → Nat → Int32} {p1 p2 : Int32} (hx : (r, v, f, g) = xs_likely vx fx gx p1 p2) (hm : (r2, mi2, fm2) = ms_likely mi fm p1 p2) : REL v f g mi2 fm2 := p3_likely (mip_of hMI) h hx hm
theorem pr_moved {vx : Nat → Int32} {fx : Nat → Nat → Int32} {gx : Nat → Nat → Int64} {mi : Nat → Int32} {fm : Nat → Nat → Int32} (hXI : XI vx fx) (hMI : MI mi fm) (h : REL vx fx gx mi fm) {r r2 : Int32} {v : Nat → Int32} {f : Nat → Nat → Int32} {g : Nat → Nat → Int64} {mi2 : Nat → Int32} {fm2 : Nat → Nat → Int32} {p1 p2 p3 : Int32} (hx : (r, v, f, g) = xs_moved vx fx gx p1 p2 p3) (hm : (r2, mi2, fm2) = ms_moved mi fm p1 p2 p3) : REL v f g mi2 fm2 ∧ r = r2 := r3_moved (mip_of hMI) h hx hm
theorem pr_shifts {vx : Nat → Int32} {fx : Nat → Nat → Int32} {gx : Nat → Nat → Int64} {mi : Nat → Int32} {fm : Nat → Nat → Int32} (hXI : XI vx fx) (hMI : MI mi fm) (h : REL vx fx gx mi fm) {r r2 : Int32} {v : Nat → Int32} {f : Nat → Nat → Int32} {g : Nat → Nat → Int64} {mi2 : Nat → Int32} {fm2 : Nat → Nat → Int32} {p1 : Int32} (hx : (r, v, f, g) = xs_shifts vx fx gx p1) (hm : (r2, mi2, fm2) = ms_shifts mi fm p1) : REL v f g mi2 fm2 ∧ r = r2 := r3_shifts (mip_of hMI) h hx hm
theorem pr_settled {vx : Nat → Int32} {fx : Nat → Nat → Int32} {gx : Nat → Nat → Int64} {mi : Nat → Int32} {fm : Nat → Nat → Int32} (hXI : XI vx fx) (hMI : MI mi fm) (h : REL vx fx gx mi fm) {r r2 : Int32} {v : Nat → Int32} {f : Nat → Nat → Int32} {g : Nat → Nat → Int64} {mi2 : Nat → Int32} {fm2 : Nat → Nat → Int32} {p1 : Int32} (hx : (r, v, f, g) = xs_settled vx fx gx p1) (hm : (r2, mi2, fm2) = ms_settled mi fm p1) : REL v f g mi2 fm2 ∧ r = r2 := r3_settled (mip_of hMI) h hx hm
theorem pr_due {vx : Nat → Int32} {fx : Nat → Nat → Int32} {gx : Nat → Nat → Int64} {mi : Nat → Int32} {fm : Nat → Nat → Int32} (hXI : XI vx fx) (hMI : MI mi fm) (h : REL vx fx gx mi fm) {r r2 : Int32} {v : Nat → Int32} {f : Nat → Nat → Int32} {g : Nat → Nat → Int64} {mi2 : Nat → Int32} {fm2 : Nat → Nat → Int32} {p1 p2 : Int32} (hx : (r, v, f, g) = xs_due vx fx gx p1 p2) (hm : (r2, mi2, fm2) = ms_due mi fm p1 p2) : REL v f g mi2 fm2 ∧ r = r2 := r3_due (mip_of hMI) h hx hm
theorem pr_dueSpan {vx : Nat → Int32} {fx : Nat → Nat → Int32} {gx : Nat → Nat → Int64} {mi : Nat → Int32} {fm : Nat → Nat → Int32} (hXI : XI vx fx) (hMI : MI mi fm) (h : REL vx fx gx mi fm) {r r2 : Int32} {v : Nat → Int32} {f : Nat → Nat → Int32} {g : Nat → Nat → Int64} {mi2 : Nat → Int32} {fm2 : Nat → Nat → Int32} {p1 p2 p3 : Int32} (hx : (r, v, f, g) = xs_dueSpan vx fx gx p1 p2 p3) (hm : (r2, mi2, fm2) = ms_dueSpan mi fm p1 p2 p3) : REL v f g mi2 fm2 := p3_dueSpan (mip_of hMI) h hx hm
theorem pr_dueOn {vx : Nat → Int32} {fx : Nat → Nat → Int32} {gx : Nat → Nat → Int64} {mi : Nat → Int32} {fm : Nat → Nat → Int32} (hXI : XI vx fx) (hMI : MI mi fm) (h : REL vx fx gx mi fm) {r r2 : Int32} {v : Nat → Int32} {f : Nat → Nat → Int32} {g : Nat → Nat → Int64} {mi2 : Nat → Int32} {fm2 : Nat → Nat → Int32} {p1 p2 p3 : Int32} (hx : (r, v, f, g) = xs_dueOn vx fx gx p1 p2 p3) (hm : (r2, mi2, fm2) = ms_dueOn mi fm p1 p2 p3) : REL v f g mi2 fm2 := p3_dueOn (mip_of hMI) h hx hm
theorem pr_redated {vx : Nat → Int32} {fx : Nat → Nat → Int32} {gx : Nat → Nat → Int64} {mi : Nat → Int32} {fm : Nat → Nat → Int32} (hXI : XI vx fx) (hMI : MI mi fm) (h : REL vx fx gx mi fm) {r r2 : Int32} {v : Nat → Int32} {f : Nat → Nat → Int32} {g : Nat → Nat → Int64} {mi2 : Nat → Int32} {fm2 : Nat → Nat → Int32} {p1 : Int32} (hx : (r, v, f, g) = xs_redated vx fx gx p1) (hm : (r2, mi2, fm2) = ms_redated mi fm p1) : REL v f g mi2 fm2 ∧ r = r2 := r3_redated (mip_of hMI) h hx hm
theorem pr_longer {vx : Nat → Int32} {fx : Nat → Nat → Int32} {gx : Nat → Nat → Int64} {mi : Nat → Int32} {fm : Nat → Nat → Int32} (hXI : XI vx fx) (hMI : MI mi fm) (h : REL vx fx gx mi fm) {r r2 : Int32} {v : Nat → Int32} {f : Nat → Nat → Int32} {g : Nat → Nat → Int64} {mi2 : Nat → Int32} {fm2 : Nat → Nat → Int32} {p1 p2 p3 : Int32} (hx : (r, v, f, g) = xs_longer vx fx gx p1 p2 p3) (hm : (r2, mi2, fm2) = ms_longer mi fm p1 p2 p3) : REL v f g mi2 fm2 := p3_longer (mip_of hMI) h hx hm
theorem pr_own {vx : Nat → Int32} {fx : Nat → Nat → Int32} {gx : Nat → Nat → Int64} {mi : Nat → Int32} {fm : Nat → Nat → Int32} (hXI : XI vx fx) (hMI : MI mi fm) (h : REL vx fx gx mi fm) {r r2 : Int32} {v : Nat → Int32} {f : Nat → Nat → Int32} {g : Nat → Nat → Int64} {mi2 : Nat → Int32} {fm2 : Nat → Nat → Int32} {p1 p2 p3 : Int32} (hx : (r, v, f, g) = xs_own vx fx gx p1 p2 p3) (hm : (r2, mi2, fm2) = ms_own mi fm p1 p2 p3) : REL v f g mi2 fm2 ∧ r = r2 := r3_own (mip_of hMI) h hx hm
theorem pr_apart {vx : Nat → Int32} {fx : Nat → Nat → Int32} {gx : Nat → Nat → Int64} {mi : Nat → Int32} {fm : Nat → Nat → Int32} (hXI : XI vx fx) (hMI : MI mi fm) (h : REL vx fx gx mi fm) {r r2 : Int32} {v : Nat → Int32} {f : Nat → Nat → Int32} {g : Nat → Nat → Int64} {mi2 : Nat → Int32} {fm2 : Nat → Nat → Int32} {p1 p2 p3 : Int32} (hx : (r, v, f, g) = xs_apart vx fx gx p1 p2 p3) (hm : (r2, mi2, fm2) = ms_apart mi fm p1 p2 p3) : REL v f g mi2 fm2 ∧ r = r2 := r3_apart (mip_of hMI) h hx hm
theorem pr_hang {vx : Nat → Int32} {fx : Nat → Nat → Int32} {gx : Nat → Nat → Int64} {mi : Nat → Int32} {fm : Nat → Nat → Int32} (hXI : XI vx fx) (hMI : MI mi fm) (h : REL vx fx gx mi fm) {r r2 : Int32} {v : Nat → Int32} {f : Nat → Nat → Int32} {g : Nat → Nat → Int64} {mi2 : Nat → Int32} {fm2 : Nat → Nat → Int32} {p1 p2 : Int32} (hx : (r, v, f, g) = xs_hang vx fx gx p1 p2) (hm : (r2, mi2, fm2) = ms_hang mi fm p1 p2) : REL v f g mi2 fm2 ∧ r = r2 := r3_hang (mip_of hMI) h hx hm
theorem pr_telling {vx : Nat → Int32} {fx : Nat → Nat → Int32} {gx : Nat → Nat → Int64} {mi : Nat → Int32} {fm : Nat → Nat → Int32} (hXI : XI vx fx) (hMI : MI mi fm) (h : REL vx fx gx mi fm) {r r2 : Int32} {v : Nat → Int32} {f : Nat → Nat → Int32} {g : Nat → Nat → Int64} {mi2 : Nat → Int32} {fm2 : Nat → Nat → Int32} {p1 : Int32} (hx : (r, v, f, g) = xs_telling vx fx gx p1) (hm : (r2, mi2, fm2) = ms_telling mi fm p1) : REL v f g mi2 fm2 := p3_telling (mip_of hMI) h hx hm
theorem pr_trusted {vx : Nat → Int32} {fx : Nat → Nat → Int32} {gx : Nat → Nat → Int64} {mi : Nat → Int32} {fm : Nat → Nat → Int32} (hXI : XI vx fx) (hMI : MI mi fm) (h : REL vx fx gx mi fm) {r r2 : Int32} {v : Nat → Int32} {f : Nat → Nat → Int32} {g : Nat → Nat → Int64} {mi2 : Nat → Int32} {fm2 : Nat → Nat → Int32} {p1 p2 : Int32} (hx : (r, v, f, g) = xs_trusted vx fx gx p1 p2) (hm : (r2, mi2, fm2) = ms_trusted mi fm p1 p2) : REL v f g mi2 fm2 ∧ r = r2 := r3_trusted (mip_of hMI) h hx hm
theorem pr_days {vx : Nat → Int32} {fx : Nat → Nat → Int32} {gx : Nat → Nat → Int64} {mi : Nat → Int32} {fm : Nat → Nat → Int32} (hXI : XI vx fx) (hMI : MI mi fm) (h : REL vx fx gx mi fm) {r r2 : Int32} {v : Nat → Int32} {f : Nat → Nat → Int32} {g : Nat → Nat → Int64} {mi2 : Nat → Int32} {fm2 : Nat → Nat → Int32} {p1 p2 : Int32} (hx : (r, v, f, g) = xs_days vx fx gx p1 p2) (hm : (r2, mi2, fm2) = ms_days mi fm p1 p2) : REL v f g mi2 fm2 ∧ r = r2 := r3_days (mip_of hMI) h hx hm
theorem pr_weekday {vx : Nat → Int32} {fx : Nat → Nat → Int32} {gx : Nat → Nat → Int64} {mi : Nat → Int32} {fm : Nat → Nat → Int32} (hXI : XI vx fx) (hMI : MI mi fm) (h : REL vx fx gx mi fm) {r r2 : Int32} {v : Nat → Int32} {f : Nat → Nat → Int32} {g : Nat → Nat → Int64} {mi2 : Nat → Int32} {fm2 : Nat → Nat → Int32} {p1 p2 p3 p4 : Int32} (hx : (r, v, f, g) = xs_weekday vx fx gx p1 p2 p3 p4) (hm : (r2, mi2, fm2) = ms_weekday mi fm p1 p2 p3 p4) : REL v f g mi2 fm2 := p3_weekday (mip_of hMI) h hx hm
theorem pr_later {vx : Nat → Int32} {fx : Nat → Nat → Int32} {gx : Nat → Nat → Int64} {mi : Nat → Int32} {fm : Nat → Nat → Int32} (hXI : XI vx fx) (hMI : MI mi fm) (h : REL vx fx gx mi fm) {r r2 : Int32} {v : Nat → Int32} {f : Nat → Nat → Int32} {g : Nat → Nat → Int64} {mi2 : Nat → Int32} {fm2 : Nat → Nat → Int32} {p1 : Int32} (hx : (r, v, f, g) = xs_later vx fx gx p1) (hm : (r2, mi2, fm2) = ms_later mi fm p1) : REL v f g mi2 fm2 ∧ r = r2 := r3_later (mip_of hMI) h hx hm
theorem pr_both {vx : Nat → Int32} {fx : Nat → Nat → Int32} {gx : Nat → Nat → Int64} {mi : Nat → Int32} {fm : Nat → Nat → Int32} (hXI : XI vx fx) (hMI : MI mi fm) (h : REL vx fx gx mi fm) {r r2 : Int32} {v : Nat → Int32} {f : Nat → Nat → Int32} {g : Nat → Nat → Int64} {mi2 : Nat → Int32} {fm2 : Nat → Nat → Int32} {p1 p2 : Int32} (hx : (r, v, f, g) = xs_both vx fx gx p1 p2) (hm : (r2, mi2, fm2) = ms_both mi fm p1 p2) : REL v f g mi2 fm2 ∧ r = r2 := r3_both (mip_of hMI) h hx hm
theorem pr_nearest {vx : Nat → Int32} {fx : Nat → Nat → Int32} {gx : Nat → Nat → Int64} {mi : Nat → Int32} {fm : Nat → Nat → Int32} (hXI : XI vx fx) (hMI : MI mi fm) (h : REL vx fx gx mi fm) {r r2 : Int32} {v : Nat → Int32} {f : Nat → Nat → Int32} {g : Nat → Nat → Int64} {mi2 : Nat → Int32} {fm2 : Nat → Nat → Int32} {p1 p2 : Int32} (hx : (r, v, f, g) = xs_nearest vx fx gx p1 p2) (hm : (r2, mi2, fm2) = ms_nearest mi fm p1 p2) : REL v f g mi2 fm2 := p3_nearest (mip_of hMI) h hx hm
theorem pr_backed {vx : Nat → Int32} {fx : Nat → Nat → Int32} {gx : Nat → Nat → Int64} {mi : Nat → Int32} {fm : Nat → Nat → Int32} (hXI : XI vx fx) (hMI : MI mi fm) (h : REL vx fx gx mi fm) {r r2 : Int32} {v : Nat → Int32} {f : Nat → Nat → Int32} {g : Nat → Nat → Int64} {mi2 : Nat → Int32} {fm2 : Nat → Nat → Int32} {p1 p2 : Int32} (hx : (r, v, f, g) = xs_backed vx fx gx p1 p2) (hm : (r2, mi2, fm2) = ms_backed mi fm p1 p2) : REL v f g mi2 fm2 := p3_backed (mip_of hMI) h hx hm
theorem pr_tell {vx : Nat → Int32} {fx : Nat → Nat → Int32} {gx : Nat → Nat → Int64} {mi : Nat → Int32} {fm : Nat → Nat → Int32} (hXI : XI vx fx) (hMI : MI mi fm) (h : REL vx fx gx mi fm) {r r2 : Int32} {v : Nat → Int32} {f : Nat → Nat → Int32} {g : Nat → Nat → Int64} {mi2 : Nat → Int32} {fm2 : Nat → Nat → Int32} {p1 : Int32} (hx : (r, v, f, g) = xs_tell vx fx gx p1) (hm : (r2, mi2, fm2) = ms_tell mi fm p1) : REL v f g mi2 fm2 ∧ r = r2 := r3_tell (mip_of hMI) h hx hm
theorem pr_octet {vx : Nat → Int32} {fx : Nat → Nat → Int32} {gx : Nat → Nat → Int64} {mi : Nat → Int32} {fm : Nat → Nat → Int32} (hXI : XI vx fx) (hMI : MI mi fm) (h : REL vx fx gx mi fm) {r r2 : Int32} {v : Nat → Int32} {f : Nat → Nat → Int32} {g : Nat → Nat → Int64} {mi2 : Nat → Int32} {fm2 : Nat → Nat → Int32} {p1 : Int32} (hx : (r, v, f, g) = xs_octet vx fx gx p1) (hm : (r2, mi2, fm2) = ms_octet mi fm p1) : REL v f g mi2 fm2 ∧ r = r2 := r3_octet h hXI.1 hx hm
theorem pr_reports {vx : Nat → Int32} {fx : Nat → Nat → Int32} {gx : Nat → Nat → Int64} {mi : Nat → Int32} {fm : Nat → Nat → Int32} (hXI : XI vx fx) (hMI : MI mi fm) (h : REL vx fx gx mi fm) {r r2 : Int32} {v : Nat → Int32} {f : Nat → Nat → Int32} {g : Nat → Nat → Int64} {mi2 : Nat → Int32} {fm2 : Nat → Nat → Int32} {p1 p2 p3 p4 p5 : Int32} (hx : (r, v, f, g) = xs_reports vx fx gx p1 p2 p3 p4 p5) (hm : (r2, mi2, fm2) = ms_reports mi fm p1 p2 p3 p4 p5) : REL v f g mi2 fm2 ∧ r = r2 := r3_reports h hx hm
theorem pr_strikes {vx : Nat → Int32} {fx : Nat → Nat → Int32} {gx : Nat → Nat → Int64} {mi : Nat → Int32} {fm : Nat → Nat → Int32} (hXI : XI vx fx) (hMI : MI mi fm) (h : REL vx fx gx mi fm) {r r2 : Int32} {v : Nat → Int32} {f : Nat → Nat → Int32} {g : Nat → Nat → Int64} {mi2 : Nat → Int32} {fm2 : Nat → Nat → Int32} {p1 : Int32} (hx : (r, v, f, g) = xs_strikes vx fx gx p1) (hm : (r2, mi2, fm2) = ms_strikes mi fm p1) : REL v f g mi2 fm2 ∧ r = r2 := r3_strikes h hx hm
theorem pr_trusts {vx : Nat → Int32} {fx : Nat → Nat → Int32} {gx : Nat → Nat → Int64} {mi : Nat → Int32} {fm : Nat → Nat → Int32} (hXI : XI vx fx) (hMI : MI mi fm) (h : REL vx fx gx mi fm) {r r2 : Int32} {v : Nat → Int32} {f : Nat → Nat → Int32} {g : Nat → Nat → Int64} {mi2 : Nat → Int32} {fm2 : Nat → Nat → Int32} {p1 p2 : Int32} (hx : (r, v, f, g) = xs_trusts vx fx gx p1 p2) (hm : (r2, mi2, fm2) = ms_trusts mi fm p1 p2) : REL v f g mi2 fm2 ∧ r = r2 := r3_trusts h hx hm
theorem pr_moon {vx : Nat → Int32} {fx : Nat → Nat → Int32} {gx : Nat → Nat → Int64} {mi : Nat → Int32} {fm : Nat → Nat → Int32} (hXI : XI vx fx) (hMI : MI mi fm) (h : REL vx fx gx mi fm) {r r2 : Int32} {v : Nat → Int32} {f : Nat → Nat → Int32} {g : Nat → Nat → Int64} {mi2 : Nat → Int32} {fm2 : Nat → Nat → Int32} {p1 p2 : Int32} (hx : (r, v, f, g) = xs_moon vx fx gx p1 p2) (hm : (r2, mi2, fm2) = ms_moon mi fm p1 p2) : REL v f g mi2 fm2 ∧ r = r2 := r3_moon h hx hm
theorem pr_runs {vx : Nat → Int32} {fx : Nat → Nat → Int32} {gx : Nat → Nat → Int64} {mi : Nat → Int32} {fm : Nat → Nat → Int32} (hXI : XI vx fx) (hMI : MI mi fm) (h : REL vx fx gx mi fm) {r r2 : Int32} {v : Nat → Int32} {f : Nat → Nat → Int32} {g : Nat → Nat → Int64} {mi2 : Nat → Int32} {fm2 : Nat → Nat → Int32} {p1 p2 : Int32} (hx : (r, v, f, g) = xs_runs vx fx gx p1 p2) (hm : (r2, mi2, fm2) = ms_runs mi fm p1 p2) : REL v f g mi2 fm2 ∧ r = r2 := r3_runs (mip_of hMI) h hx hm
def VX0 : Nat → Int32 := (fun n => ([0, 0, (-1), 0, 0, 0, (-1), 0, 0, 0, 0, 0, 0, 0, 0, 0, 0, 0, 0, 0, 0, 0, 0, 0, 0, 0, 0, 0, 0, 0, 0, 0, 0, 0, 0, 0, 0, 0, 0, 0, 0, 0, 0, 0, 0, 0, 0, 0, 0, 0, 0, 0, 0, 0, 0, 0, 0, 0, 0, 0, 0] : List Int32).getD n 0)
def MI0 : Nat → Int32 := (fun n => ([0, 0, 0, 0, 0, 0, 0, 0, 0, 0, 0, 0, 0, 0, 0, 0, 0, 0, 0, 0, 0, 0, 0, 0, 0, 0, 0, 0, (-1), 0, 0, 0, 0, 0, 0, 0, 0, 0, 0, 0, 0, 0, (-1), (-1), (-1), (-1), 0, 0, 0, 0, 0, 0, 0, 0, 0, 0, 0] : List Int32).getD n 0)
theorem rel_start {vx : Nat → Int32} {fx : Nat → Nat → Int32} {gx : Nat → Nat → Int64} {mi : Nat → Int32} {fm : Nat → Nat → Int32} (hx : vx = VX0 ∧ fx = (fun _ _ => 0) ∧ gx = (fun _ _ => 0)) (hm : mi = MI0 ∧ fm = (fun _ _ => 0)) : REL vx fx gx mi fm := by
  obtain ⟨rfl, rfl, rfl⟩ := hx
  obtain ⟨rfl, rfl⟩ := hm
  refine ⟨⟨⟨⟨0, by omega, rfl, rfl, fun j hj => absurd hj (by omega)⟩, rfl, rfl⟩, ⟨⟨rfl, rfl, rfl, rfl, rfl, rfl, rfl⟩, ⟨0, 0, 0, by omega, by omega, by omega, rfl, rfl, rfl, rfl, rfl, rfl, fun p hp => absurd hp (by omega), fun j hj => absurd hj (by omega), fun j hj => absurd hj (by omega), fun j hj => absurd hj (by omega), fun _ => ⟨rfl, rfl⟩, fun p hp => absurd hp (by omega), fun p q hp => absurd hp (by omega), fun j hj => absurd hj (by omega), fun j hj => absurd hj (by omega)⟩, by decide, by decide⟩, fun q => absurd rfl q, fun _ => rfl⟩, ⟨rfl, rfl⟩, ⟨rfl, rfl, rfl⟩, ⟨fun _ _ _ => rfl, fun _ _ _ => rfl⟩, ⟨fun _ _ _ => rfl, Or.inl rfl⟩, ⟨rfl, fun j hj => absurd hj (by rw [show VX0 0 = 0 from rfl, z32]; omega)⟩, Or.inl rfl⟩
theorem gy_PL {D : va_G} {cl : List vw_C} {X M : va_W} {H : Heap} (h : va_P D cl (X ++ M) H) : va_P D cl X H := fun k q hk => h k q (by rw [List.getElem?_append_left (List.getElem?_eq_some_iff.mp hk).1]; exact hk)
theorem gy_PR {D : va_G} {cl : List vw_C} {X M : va_W} {H : Heap} (h : va_P D cl (X ++ M) H) : va_P D cl M H := fun k q hk => h (X.length + k) q (by rw [List.getElem?_append_right (by omega), Nat.add_sub_cancel_left]; exact hk)
theorem gy_DL {A : Nat → Prop} {X M : va_W} (h : va_D A (X ++ M)) : va_D A X := ⟨fun i j p q hi hj e => h.1 i j p q (by rw [List.getElem?_append_left (List.getElem?_eq_some_iff.mp hi).1]; exact hi) (by rw [List.getElem?_append_left (List.getElem?_eq_some_iff.mp hj).1]; exact hj) e, fun k q hk => h.2 k q (by rw [List.getElem?_append_left (List.getElem?_eq_some_iff.mp hk).1]; exact hk)⟩
theorem gy_DR {A : Nat → Prop} {X M : va_W} (h : va_D A (X ++ M)) : va_D A M := ⟨fun i j p q hi hj e => by
    have h1 := h.1 (X.length + i) (X.length + j) p q (by rw [List.getElem?_append_right (by omega), Nat.add_sub_cancel_left]; exact hi) (by rw [List.getElem?_append_right (by omega), Nat.add_sub_cancel_left]; exact hj) e
    omega, fun k q hk => h.2 (X.length + k) q (by rw [List.getElem?_append_right (by omega), Nat.add_sub_cancel_left]; exact hk)⟩
theorem gy_ap {A : Nat → Prop} {X M : va_W} (h : va_D A (X ++ M)) {i j : Nat} {p q : Nat × va_E} (hi : X[i]? = some p) (hj : M[j]? = some q) : p.1 ≠ q.1 := by
  intro e
  have h1 := h.1 i (X.length + j) p q (by rw [List.getElem?_append_left (List.getElem?_eq_some_iff.mp hi).1]; exact hi) (by rw [List.getElem?_append_right (by omega), Nat.add_sub_cancel_left]; exact hj) e
  have h2 := (List.getElem?_eq_some_iff.mp hi).1
  omega
theorem gy_cut {A : Nat → Prop} {D : va_G} {cl : List vw_C} {X M : va_W} {H0 H : Heap} {locs : List Loc} (hP : va_P D cl (X ++ M) H) (hD : va_D A (X ++ M)) (hS : va_S A H0 H locs) (hA : ∀ q, H0.size ≤ q → A q) : va_P D cl M H ∧ va_D A M ∧ ∀ q, va_A M H.size q → A q := ⟨gy_PR hP, gy_DR hD, gz_fullF (gy_DR hD) hS hA⟩
theorem gy_join {A : Nat → Prop} {D : va_G} {cl : List vw_C} {X M M2 : va_W} {H H1 : Heap} (hP : va_P D cl (X ++ M) H) (hD : va_D A (X ++ M)) (hk : ∀ q : Nat, q < H.size → ¬ va_A M H.size q → H1[q]? = H[q]?) (hF : ∀ q, va_A M H.size q → A q) (hP1 : va_P D cl M2 H1) (hD1 : va_D (va_A M H.size) M2) : va_P D cl (X ++ M2) H1 ∧ va_D A (X ++ M2) := by
  have out : ∀ (k : Nat) (q : Nat × va_E), X[k]? = some q → q.1 < H.size ∧ ¬ va_A M H.size q.1 := by
    intro k q hq
    have hl := (gy_PL hP k q hq).lt
    refine ⟨hl, ?_⟩
    rintro (⟨j, e, h⟩ | h)
    · exact gy_ap hD hq h rfl
    · omega
  refine ⟨va_P.app (fun k q hq => ?_) hP1, va_D.app (gy_DL hD) (hD1.weaken (fun k q _ h => hF q.1 h)) (fun i j x y hx hy hxy => ?_)⟩
  · obtain ⟨g1, g2⟩ := out k q hq
    exact (gy_PL hP k q hq).kept (hk q.1 g1 g2)
  · exact (out i x hx).2 (by rw [hxy]; exact hD1.2 j y hy)
theorem gz_Pq {D : va_G} {cl : List vw_C} {ws : va_W} {H : Heap} {a n : Nat} {c : ClassId} {f g : Nat → Option Nat} (hP : va_P D cl ws H) (k : Nat) (hk : ws[k]? = some (a, .inl (c, n, .inr (.inr (.inr (.inr f)))))) (h : ∀ i, i < n → f i = g i) : va_P D cl (ws.set k (a, .inl (c, n, .inr (.inr (.inr (.inr g)))))) H := by
  intro j q hj
  by_cases hjk : j = k
  · subst hjk
    rw [List.getElem?_set_self (List.getElem?_eq_some_iff.mp hk).1] at hj
    cases hj
    have h1 : H[a]? = some (vp_cell c (n, .inr (.inr (.inr (.inr f))))) := hP j _ hk
    show H[a]? = some (vp_cell c (n, .inr (.inr (.inr (.inr g)))))
    rw [h1, vp_cell_q, vp_cell_q]
    unfold arrV
    congr 3
    funext x
    show va_rf (f x.val) = va_rf (g x.val)
    rw [h x.val x.isLt]
  · rw [List.getElem?_set_ne (Ne.symm hjk)] at hj
    exact hP j q hj
theorem gz_Dq {A : Nat → Prop} {ws : va_W} {a n : Nat} {c : ClassId} {f : Nat → Option Nat} (hD : va_D A ws) (k : Nat) {g : Nat → Option Nat} (hk : ws[k]? = some (a, .inl (c, n, .inr (.inr (.inr (.inr f)))))) : va_D A (ws.set k (a, .inl (c, n, .inr (.inr (.inr (.inr g)))))) := hD.set hk
theorem dfX3 : ∀ j, j < 5 → defaultValue (tyX3 j) = vp_V [.int 0, .int 0, .int 0, .null, .null] j := by decide +kernel
theorem dfX5 : ∀ j, j < 2 → defaultValue (tyX5 j) = vp_V [.int 0, .int 0] j := by decide +kernel
theorem dfX7 : ∀ j, j < 6 → defaultValue (tyX7 j) = vp_V [.int 0, .int 0, .int 0, .int 0, .int 0, .int 0] j := by decide +kernel
theorem dfX2 : ∀ j, j < 4 → defaultValue (tyX2 j) = vp_V [.int 0, .int 0, .int 0, .int 0] j := by decide +kernel
theorem dfX10 : ∀ j, j < 2 → defaultValue (tyX10 j) = vp_V [.null, .int 0] j := by decide +kernel
theorem dfX0 : ∀ j, j < 13 → defaultValue (tyX0 j) = vp_V [.int 0, .int 0, .int 0, .int 0, .int 0, .int 0, .int 0, .int 0, .int 0, .int 0, .null, .null, .null] j := by decide +kernel
theorem dfX6 : ∀ j, j < 7 → defaultValue (tyX6 j) = vp_V [.null, .null, .int 0, .int 0, .int 0, .int 0, .int 0] j := by decide +kernel
theorem dfX1 : ∀ j, j < 7 → defaultValue (tyX1 j) = vp_V [.null, .null, .null, .null, .null, .int 0, .int 0] j := by decide +kernel
theorem dfX9 : ∀ j, j < 6 → defaultValue (tyX9 j) = vp_V [.null, .null, .null, .int 0, .int 0, .int 0] j := by decide +kernel
theorem dfX8 : ∀ j, j < 5 → defaultValue (tyX8 j) = vp_V [.null, .null, .int 0, .int 0, .int 0] j := by decide +kernel
theorem dfX4 : ∀ j, j < 3 → defaultValue (tyX4 j) = vp_V [.null, .null, .int 0] j := by decide +kernel
theorem dfX11 : ∀ j, j < 16 → defaultValue (tyX11 j) = vp_V [.null, .null, .null, .null, .null, .null, .null, .null, .null, .null, .null, .int 0, .int 0, .int 0, .int 0, .int 0] j := by decide +kernel
theorem dfX12 : ∀ j, j < 57 → defaultValue (tyX12 j) = vp_V [.int 0, .int 0, .int 0, .int 0, .int 0, .int 0, .int 0, .int 0, .null, .null, .int 0, .null, .null, .null, .null, .null, .null, .int 0, .null, .null, .null, .null, .null, .int 0, .int 0, .null, .int 0, .int 0, .int 0, .int 0, .int 0, .int 0, .int 0, .int 0, .null, .null, .null, .int 0, .null, .null, .null, .int 0, .int 0, .int 0, .int 0, .int 0, .null, .int 0, .int 0, .int 0, .int 0, .int 0, .null, .null, .int 0, .null, .int 0] j := by decide +kernel
noncomputable def lsX5_init : List (Nat × Instr × Nat) := [(0, .aload_n 0, 1), (1, .invokespecial 1, 3), (4, .return_, 1)]
theorem dkX5_init : dkAll cX5_init lsX5_init = true := dk_fast (by decide +kernel)
set_option maxHeartbeats 4000000 in
set_option maxRecDepth 100000 in
theorem fX5_init (l : Launch) (dC : Nat → ClassId) (dI : Nat → Nat → Nat) (h0 : Nat) : Met l yX5_init (.code yX5_init cX5_init 1 none :: wsGA) ({ frames := 1, cells := 0, slots := 0, locals := 12 }) (va_Pc [.ref h0] (fun U => va_P (dC, dI) vwCl [] U.heap ∧ va_K (dC, dI) vwCl [] U)) (va_Qv (fun (u : Unit) => True) (fun _ _ => True) (fun _ => False)) 0 0 (fun _ => False) := by
  refine Met.ofW (cc := cX5_init) (maxL := 1) (ret := none) (by decide) rfl ?_
  intro p e s m args below meth c s₁ B hml hv
  obtain ⟨rfl, hP, hK⟩ := hv
  have hx := B.exec
  have hb := B.bytes
  have hr := B.returns
  have hts := atoms_spec (ws := (.code yX5_init cX5_init 1 none :: wsGA)) B.pre
  have hown : s.vm.findClass RX5 = some m.cls := findClass_of_methodNamed B.named
  have hlocks := B.notSynchronized
  have hin : meth.name = "<init>" := (name_of_methodNamed B.named B.method).1
  have hS : va_S (fun _ => False) s.heap s.heap [] := va_S.rf
  have hl := lv_entry ([.ref h0]) (n := 1) (Nat.le_of_ble_eq_true rfl)
  rw [lg_entry_eq]
  generalize (lg_sl ([.ref h0]) ++ List.replicate (1 - (lg_sl ([.ref h0])).length) Slot.unset).toArray = ls at hl ⊢
  have hl : lv_has ls 1 [(0, .ref h0)] := hl
  refine lv_aload_n hx hb (dk_at dkX5_init 0 rfl) rfl (lv_at hl 0 rfl) ?_
  refine W.objInit hx hb hown (hts _ (List.mem_cons_of_mem _ mGA_83)) (hts _ (List.mem_cons_of_mem _ mGA_5)) (hts _ (List.mem_cons_of_mem _ mGA_6)) rfl (by rw [hml]; exact hl.1) rfl (dk_at dkX5_init 1 rfl) (Nat.le_of_ble_eq_true rfl) (Nat.le_of_ble_eq_true rfl) ?_
  refine W.eq (g2 := F0 m 4 ls []) rfl ?_
  exact W.vret hx hb hr (fun t ht hW => ⟨⟨(), rfl, trivial, trivial⟩, hS.F ht⟩) hS.2.2 (dk_at dkX5_init 2 rfl)
noncomputable def lsX7_init : List (Nat × Instr × Nat) := [(0, .aload_n 0, 1), (1, .invokespecial 1, 3), (4, .return_, 1)]
theorem dkX7_init : dkAll cX7_init lsX7_init = true := dk_fast (by decide +kernel)
set_option maxHeartbeats 4000000 in
set_option maxRecDepth 100000 in
theorem fX7_init (l : Launch) (dC : Nat → ClassId) (dI : Nat → Nat → Nat) (h0 : Nat) : Met l yX7_init (.code yX7_init cX7_init 1 none :: wsGA) ({ frames := 1, cells := 0, slots := 0, locals := 12 }) (va_Pc [.ref h0] (fun U => va_P (dC, dI) vwCl [] U.heap ∧ va_K (dC, dI) vwCl [] U)) (va_Qv (fun (u : Unit) => True) (fun _ _ => True) (fun _ => False)) 0 0 (fun _ => False) := by
  refine Met.ofW (cc := cX7_init) (maxL := 1) (ret := none) (by decide) rfl ?_
  intro p e s m args below meth c s₁ B hml hv
  obtain ⟨rfl, hP, hK⟩ := hv
  have hx := B.exec
  have hb := B.bytes
  have hr := B.returns
  have hts := atoms_spec (ws := (.code yX7_init cX7_init 1 none :: wsGA)) B.pre
  have hown : s.vm.findClass RX7 = some m.cls := findClass_of_methodNamed B.named
  have hlocks := B.notSynchronized
  have hin : meth.name = "<init>" := (name_of_methodNamed B.named B.method).1
  have hS : va_S (fun _ => False) s.heap s.heap [] := va_S.rf
  have hl := lv_entry ([.ref h0]) (n := 1) (Nat.le_of_ble_eq_true rfl)
  rw [lg_entry_eq]
  generalize (lg_sl ([.ref h0]) ++ List.replicate (1 - (lg_sl ([.ref h0])).length) Slot.unset).toArray = ls at hl ⊢
  have hl : lv_has ls 1 [(0, .ref h0)] := hl
  refine lv_aload_n hx hb (dk_at dkX7_init 0 rfl) rfl (lv_at hl 0 rfl) ?_
  refine W.objInit hx hb hown (hts _ (List.mem_cons_of_mem _ mGA_86)) (hts _ (List.mem_cons_of_mem _ mGA_5)) (hts _ (List.mem_cons_of_mem _ mGA_6)) rfl (by rw [hml]; exact hl.1) rfl (dk_at dkX7_init 1 rfl) (Nat.le_of_ble_eq_true rfl) (Nat.le_of_ble_eq_true rfl) ?_
  refine W.eq (g2 := F0 m 4 ls []) rfl ?_
  exact W.vret hx hb hr (fun t ht hW => ⟨⟨(), rfl, trivial, trivial⟩, hS.F ht⟩) hS.2.2 (dk_at dkX7_init 2 rfl)
noncomputable def lsX2_init : List (Nat × Instr × Nat) := [(0, .aload_n 0, 1), (1, .invokespecial 1, 3), (4, .return_, 1)]
theorem dkX2_init : dkAll cX2_init lsX2_init = true := dk_fast (by decide +kernel)
set_option maxHeartbeats 4000000 in
set_option maxRecDepth 100000 in
theorem fX2_init (l : Launch) (dC : Nat → ClassId) (dI : Nat → Nat → Nat) (h0 : Nat) : Met l yX2_init (.code yX2_init cX2_init 1 none :: wsGA) ({ frames := 1, cells := 0, slots := 0, locals := 12 }) (va_Pc [.ref h0] (fun U => va_P (dC, dI) vwCl [] U.heap ∧ va_K (dC, dI) vwCl [] U)) (va_Qv (fun (u : Unit) => True) (fun _ _ => True) (fun _ => False)) 0 0 (fun _ => False) := by
  refine Met.ofW (cc := cX2_init) (maxL := 1) (ret := none) (by decide) rfl ?_
  intro p e s m args below meth c s₁ B hml hv
  obtain ⟨rfl, hP, hK⟩ := hv
  have hx := B.exec
  have hb := B.bytes
  have hr := B.returns
  have hts := atoms_spec (ws := (.code yX2_init cX2_init 1 none :: wsGA)) B.pre
  have hown : s.vm.findClass RX2 = some m.cls := findClass_of_methodNamed B.named
  have hlocks := B.notSynchronized
  have hin : meth.name = "<init>" := (name_of_methodNamed B.named B.method).1
  have hS : va_S (fun _ => False) s.heap s.heap [] := va_S.rf
  have hl := lv_entry ([.ref h0]) (n := 1) (Nat.le_of_ble_eq_true rfl)
  rw [lg_entry_eq]
  generalize (lg_sl ([.ref h0]) ++ List.replicate (1 - (lg_sl ([.ref h0])).length) Slot.unset).toArray = ls at hl ⊢
  have hl : lv_has ls 1 [(0, .ref h0)] := hl
  refine lv_aload_n hx hb (dk_at dkX2_init 0 rfl) rfl (lv_at hl 0 rfl) ?_
  refine W.objInit hx hb hown (hts _ (List.mem_cons_of_mem _ mGA_89)) (hts _ (List.mem_cons_of_mem _ mGA_5)) (hts _ (List.mem_cons_of_mem _ mGA_6)) rfl (by rw [hml]; exact hl.1) rfl (dk_at dkX2_init 1 rfl) (Nat.le_of_ble_eq_true rfl) (Nat.le_of_ble_eq_true rfl) ?_
  refine W.eq (g2 := F0 m 4 ls []) rfl ?_
  exact W.vret hx hb hr (fun t ht hW => ⟨⟨(), rfl, trivial, trivial⟩, hS.F ht⟩) hS.2.2 (dk_at dkX2_init 2 rfl)
noncomputable def lsX3_init : List (Nat × Instr × Nat) := [(0, .aload_n 0, 1), (1, .invokespecial 3, 3), (4, .aload_n 0, 1), (5, .bipush 25, 2), (7, .newarray .int, 2), (9, .putfield 9, 3), (12, .aload_n 0, 1), (13, .sipush 275, 3), (16, .newarray .int, 2), (18, .putfield 15, 3), (21, .return_, 1)]
theorem dkX3_init : dkAll cX3_init lsX3_init = true := by decide +kernel
set_option maxHeartbeats 4000000 in
set_option maxRecDepth 100000 in
theorem fX3_init (l : Launch) (dC : Nat → ClassId) (dI : Nat → Nat → Nat) (sz : Nat) (h0 : Nat) : Met l yX3_init (.code yX3_init cX3_init 1 none :: wsGA) ({ frames := 1, cells := 2, slots := 300, locals := 12 }) (va_Pc [.ref h0] (fun U => U.heap.size = sz ∧ va_P (dC, dI) vwCl [(h0, .inr (3, [.int 0, .int 0, .int 0, .null, .null]))] U.heap ∧ va_K (dC, dI) vwCl [] U ∧ va_D (fun _ => True) [(h0, .inr (3, [.int 0, .int 0, .int 0, .null, .null]))])) (va_Qv (fun (u : Unit) => True) (fun _ t => ∃ (q : Nat → Nat) (kk : Nat → ClassId), va_P (dC, dI) vwCl [(h0, .inr (3, [.int 0, .int 0, .int 0, .ref (q 0), .ref (q 1)])), ((q 0), .inl ((kk 0), 25, .inl (fun _ => 0))), ((q 1), .inl ((kk 1), 275, .inl (fun _ => 0)))] t.heap ∧ va_K (dC, dI) vwCl [((kk 0), .int), ((kk 1), .int)] t ∧ va_D (va_A [(h0, .inr (3, [.int 0, .int 0, .int 0, .null, .null]))] sz) [(h0, .inr (3, [.int 0, .int 0, .int 0, .ref (q 0), .ref (q 1)])), ((q 0), .inl ((kk 0), 25, .inl (fun _ => 0))), ((q 1), .inl ((kk 1), 275, .inl (fun _ => 0)))]) (va_A [(h0, .inr (3, [.int 0, .int 0, .int 0, .null, .null]))] sz)) 2 300 (va_A [(h0, .inr (3, [.int 0, .int 0, .int 0, .null, .null]))] sz) := by
  refine Met.ofW (cc := cX3_init) (maxL := 1) (ret := none) (by decide) rfl ?_
  intro p e s m args below meth c s₁ B hml hv
  obtain ⟨rfl, hsz, hP, hK, hD0⟩ := hv
  have hx := B.exec
  have hb := B.bytes
  have hr := B.returns
  have hts := atoms_spec (ws := (.code yX3_init cX3_init 1 none :: wsGA)) B.pre
  have hown : s.vm.findClass RX3 = some m.cls := findClass_of_methodNamed B.named
  have hlocks := B.notSynchronized
  have hin : meth.name = "<init>" := (name_of_methodNamed B.named B.method).1
  subst hsz
  have hD := hD0.self (sz := s.heap.size)
  generalize hAe : va_A [(h0, .inr (3, [.int 0, .int 0, .int 0, .null, .null]))] s.heap.size = A at hD ⊢
  have hA : ∀ q : Nat, s.heap.size ≤ q → A q := fun q h => by rw [← hAe]; exact Or.inr h
  have hS : va_S A s.heap s.heap [] := va_S.rf
  have hl := lv_entry ([.ref h0]) (n := 1) (Nat.le_of_ble_eq_true rfl)
  rw [lg_entry_eq]
  generalize (lg_sl ([.ref h0]) ++ List.replicate (1 - (lg_sl ([.ref h0])).length) Slot.unset).toArray = ls at hl ⊢
  have hl : lv_has ls 1 [(0, .ref h0)] := hl
  refine lv_aload_n hx hb (dk_at dkX3_init 0 rfl) rfl (lv_at hl 0 rfl) ?_
  refine W.objInit hx hb hown (hts _ (List.mem_cons_of_mem _ mGA_93)) (hts _ (List.mem_cons_of_mem _ mGA_5)) (hts _ (List.mem_cons_of_mem _ mGA_6)) rfl (by rw [hml]; exact hl.1) rfl (dk_at dkX3_init 1 rfl) (Nat.le_of_ble_eq_true rfl) (Nat.le_of_ble_eq_true rfl) ?_
  refine W.eq (g2 := F0 m 4 ls []) rfl ?_
  refine lv_aload_n hx hb (dk_at dkX3_init 2 rfl) rfl (lv_at hl 0 rfl) ?_
  refine lv_bipush (v := 25) hx hb (dk_at dkX3_init 3 rfl) (by decide) ?_
  refine va_newa (atype := .int) (ty := .int) (a0 := (25, .inl (fun _ => 0))) hx hb (hts _ (List.mem_cons_of_mem _ mGA_37)) rfl hK hP hD hS hA (fun _ => rfl) (by decide) (by decide) (Nat.le_of_ble_eq_true rfl) (Nat.le_of_ble_eq_true rfl) (Nat.le_of_ble_eq_true rfl) (dk_at dkX3_init 4 rfl) (fun q_1 k_2 H hK hP hD hS => ?_)
  obtain ⟨hP, hD⟩ := gz_both (w := [(h0, .inr (3, [.int 0, .int 0, .int 0, .null, .null])), (q_1, .inl (k_2, 25, .inl (fun _ => 0)))]) hP hD
  have hK : va_K (dC, dI) vwCl [(k_2, .int)] s := hK
  refine W.widen (k := 1) (n := 25) (Nat.le_of_ble_eq_true rfl) (Nat.le_of_ble_eq_true rfl) ?_
  refine va_putF (D := (dC, dI)) (ci := 3) (v := .ref q_1) (ty := .array .int) (C := RX3) (T := TX3) (N := 5) hx hb hts (fun w h => List.mem_cons_of_mem _ (jnGA_X3 w h)) tyX3 tyX3_ok nmX3 hown hK hP hD hS 0 rfl rfl 3 (by decide) (hts _ (List.mem_cons_of_mem _ mGA_94)) (fun _ h9 => h9) rfl hin rfl (by decide +kernel) rfl rfl (Nat.le_of_ble_eq_true rfl) (dk_at dkX3_init 5 rfl) (fun H locs hP hD hS => ?_)
  obtain ⟨hP, hD⟩ := gz_both (w := [(h0, .inr (3, [.int 0, .int 0, .int 0, .ref q_1, .null])), (q_1, .inl (k_2, 25, .inl (fun _ => 0)))]) hP hD
  refine lv_aload_n hx hb (dk_at dkX3_init 6 rfl) rfl (lv_at hl 0 rfl) ?_
  refine lv_sipush (v := 275) hx hb (dk_at dkX3_init 7 rfl) (by decide) ?_
  refine va_newa (atype := .int) (ty := .int) (a0 := (275, .inl (fun _ => 0))) hx hb (hts _ (List.mem_cons_of_mem _ mGA_37)) rfl hK hP hD hS hA (fun _ => rfl) (by decide) (by decide) (Nat.le_of_ble_eq_true rfl) (Nat.le_of_ble_eq_true rfl) (Nat.le_of_ble_eq_true rfl) (dk_at dkX3_init 8 rfl) (fun q_3 k_4 H hK hP hD hS => ?_)
  obtain ⟨hP, hD⟩ := gz_both (w := [(h0, .inr (3, [.int 0, .int 0, .int 0, .ref q_1, .null])), (q_1, .inl (k_2, 25, .inl (fun _ => 0))), (q_3, .inl (k_4, 275, .inl (fun _ => 0)))]) hP hD
  have hK : va_K (dC, dI) vwCl [(k_2, .int), (k_4, .int)] s := hK
  refine W.widen (k := 2) (n := 300) (Nat.le_of_ble_eq_true rfl) (Nat.le_of_ble_eq_true rfl) ?_
  refine va_putF (D := (dC, dI)) (ci := 3) (v := .ref q_3) (ty := .array .int) (C := RX3) (T := TX3) (N := 5) hx hb hts (fun w h => List.mem_cons_of_mem _ (jnGA_X3 w h)) tyX3 tyX3_ok nmX3 hown hK hP hD hS 0 rfl rfl 4 (by decide) (hts _ (List.mem_cons_of_mem _ mGA_95)) (fun _ h9 => h9) rfl hin rfl (by decide +kernel) rfl rfl (Nat.le_of_ble_eq_true rfl) (dk_at dkX3_init 9 rfl) (fun H locs hP hD hS => ?_)
  obtain ⟨hP, hD⟩ := gz_both (w := [(h0, .inr (3, [.int 0, .int 0, .int 0, .ref q_1, .ref q_3])), (q_1, .inl (k_2, 25, .inl (fun _ => 0))), (q_3, .inl (k_4, 275, .inl (fun _ => 0)))]) hP hD
  have hP9 := hP.sub (ws' := [(h0, .inr (3, [.int 0, .int 0, .int 0, .ref q_1, .ref q_3])), (q_1, .inl (k_2, 25, .inl (fun _ => 0))), (q_3, .inl (k_4, 275, .inl (fun _ => 0)))]) [0, 1, 2] rfl
  have hD9 := hD.sub (ws' := [(h0, .inr (3, [.int 0, .int 0, .int 0, .ref q_1, .ref q_3])), (q_1, .inl (k_2, 25, .inl (fun _ => 0))), (q_3, .inl (k_4, 275, .inl (fun _ => 0)))]) [0, 1, 2] (by decide +kernel) rfl
  have hK9 := hK.sub (tys' := [(k_2, .int), (k_4, .int)]) [0, 1] rfl
  exact W.vret hx hb hr (fun t ht hW => ⟨⟨(), rfl, trivial, (fun n => [q_1, q_3].getD n 0), (fun n => [k_2, k_4].getD n k_2), by rw [ht]; exact hP9, va_K.moved hW.alike hK9, hD9⟩, hS.F ht⟩) hS.2.2 (dk_at dkX3_init 10 rfl)
noncomputable def lsX9_init : List (Nat × Instr × Nat) := [(0, .aload_n 0, 1), (1, .invokespecial 3, 3), (4, .aload_n 0, 1), (5, .sipush 3575, 3), (8, .newarray .int, 2), (10, .putfield 9, 3), (13, .aload_n 0, 1), (14, .sipush 3575, 3), (17, .newarray .int, 2), (19, .putfield 15, 3), (22, .aload_n 0, 1), (23, .sipush 325, 3), (26, .newarray .int, 2), (28, .putfield 18, 3), (31, .return_, 1)]
theorem dkX9_init : dkAll cX9_init lsX9_init = true := by decide +kernel
set_option maxHeartbeats 4000000 in
set_option maxRecDepth 100000 in
theorem fX9_init (l : Launch) (dC : Nat → ClassId) (dI : Nat → Nat → Nat) (sz : Nat) (h0 : Nat) : Met l yX9_init (.code yX9_init cX9_init 1 none :: wsGA) ({ frames := 1, cells := 3, slots := 7475, locals := 12 }) (va_Pc [.ref h0] (fun U => U.heap.size = sz ∧ va_P (dC, dI) vwCl [(h0, .inr (9, [.null, .null, .null, .int 0, .int 0, .int 0]))] U.heap ∧ va_K (dC, dI) vwCl [] U ∧ va_D (fun _ => True) [(h0, .inr (9, [.null, .null, .null, .int 0, .int 0, .int 0]))])) (va_Qv (fun (u : Unit) => True) (fun _ t => ∃ (q : Nat → Nat) (kk : Nat → ClassId), va_P (dC, dI) vwCl [(h0, .inr (9, [.ref (q 0), .ref (q 1), .ref (q 2), .int 0, .int 0, .int 0])), ((q 0), .inl ((kk 0), 3575, .inl (fun _ => 0))), ((q 1), .inl ((kk 1), 3575, .inl (fun _ => 0))), ((q 2), .inl ((kk 2), 325, .inl (fun _ => 0)))] t.heap ∧ va_K (dC, dI) vwCl [((kk 0), .int), ((kk 1), .int), ((kk 2), .int)] t ∧ va_D (va_A [(h0, .inr (9, [.null, .null, .null, .int 0, .int 0, .int 0]))] sz) [(h0, .inr (9, [.ref (q 0), .ref (q 1), .ref (q 2), .int 0, .int 0, .int 0])), ((q 0), .inl ((kk 0), 3575, .inl (fun _ => 0))), ((q 1), .inl ((kk 1), 3575, .inl (fun _ => 0))), ((q 2), .inl ((kk 2), 325, .inl (fun _ => 0)))]) (va_A [(h0, .inr (9, [.null, .null, .null, .int 0, .int 0, .int 0]))] sz)) 3 7475 (va_A [(h0, .inr (9, [.null, .null, .null, .int 0, .int 0, .int 0]))] sz) := by
  refine Met.ofW (cc := cX9_init) (maxL := 1) (ret := none) (by decide) rfl ?_
  intro p e s m args below meth c s₁ B hml hv
  obtain ⟨rfl, hsz, hP, hK, hD0⟩ := hv
  have hx := B.exec
  have hb := B.bytes
  have hr := B.returns
  have hts := atoms_spec (ws := (.code yX9_init cX9_init 1 none :: wsGA)) B.pre
  have hown : s.vm.findClass RX9 = some m.cls := findClass_of_methodNamed B.named
  have hlocks := B.notSynchronized
  have hin : meth.name = "<init>" := (name_of_methodNamed B.named B.method).1
  subst hsz
  have hD := hD0.self (sz := s.heap.size)
  generalize hAe : va_A [(h0, .inr (9, [.null, .null, .null, .int 0, .int 0, .int 0]))] s.heap.size = A at hD ⊢
  have hA : ∀ q : Nat, s.heap.size ≤ q → A q := fun q h => by rw [← hAe]; exact Or.inr h
  have hS : va_S A s.heap s.heap [] := va_S.rf
  have hl := lv_entry ([.ref h0]) (n := 1) (Nat.le_of_ble_eq_true rfl)
  rw [lg_entry_eq]
  generalize (lg_sl ([.ref h0]) ++ List.replicate (1 - (lg_sl ([.ref h0])).length) Slot.unset).toArray = ls at hl ⊢
  have hl : lv_has ls 1 [(0, .ref h0)] := hl
  refine lv_aload_n hx hb (dk_at dkX9_init 0 rfl) rfl (lv_at hl 0 rfl) ?_
  refine W.objInit hx hb hown (hts _ (List.mem_cons_of_mem _ mGA_110)) (hts _ (List.mem_cons_of_mem _ mGA_5)) (hts _ (List.mem_cons_of_mem _ mGA_6)) rfl (by rw [hml]; exact hl.1) rfl (dk_at dkX9_init 1 rfl) (Nat.le_of_ble_eq_true rfl) (Nat.le_of_ble_eq_true rfl) ?_
  refine W.eq (g2 := F0 m 4 ls []) rfl ?_
  refine lv_aload_n hx hb (dk_at dkX9_init 2 rfl) rfl (lv_at hl 0 rfl) ?_
  refine lv_sipush (v := 3575) hx hb (dk_at dkX9_init 3 rfl) (by decide) ?_
  refine va_newa (atype := .int) (ty := .int) (a0 := (3575, .inl (fun _ => 0))) hx hb (hts _ (List.mem_cons_of_mem _ mGA_37)) rfl hK hP hD hS hA (fun _ => rfl) (by decide) (by decide) (Nat.le_of_ble_eq_true rfl) (Nat.le_of_ble_eq_true rfl) (Nat.le_of_ble_eq_true rfl) (dk_at dkX9_init 4 rfl) (fun q_1 k_2 H hK hP hD hS => ?_)
  obtain ⟨hP, hD⟩ := gz_both (w := [(h0, .inr (9, [.null, .null, .null, .int 0, .int 0, .int 0])), (q_1, .inl (k_2, 3575, .inl (fun _ => 0)))]) hP hD
  have hK : va_K (dC, dI) vwCl [(k_2, .int)] s := hK
  refine W.widen (k := 1) (n := 3575) (Nat.le_of_ble_eq_true rfl) (Nat.le_of_ble_eq_true rfl) ?_
  refine va_putF (D := (dC, dI)) (ci := 9) (v := .ref q_1) (ty := .array .int) (C := RX9) (T := TX9) (N := 6) hx hb hts (fun w h => List.mem_cons_of_mem _ (jnGA_X9 w h)) tyX9 tyX9_ok nmX9 hown hK hP hD hS 0 rfl rfl 0 (by decide) (hts _ (List.mem_cons_of_mem _ mGA_111)) (fun _ h9 => h9) rfl hin rfl (by decide +kernel) rfl rfl (Nat.le_of_ble_eq_true rfl) (dk_at dkX9_init 5 rfl) (fun H locs hP hD hS => ?_)
  obtain ⟨hP, hD⟩ := gz_both (w := [(h0, .inr (9, [.ref q_1, .null, .null, .int 0, .int 0, .int 0])), (q_1, .inl (k_2, 3575, .inl (fun _ => 0)))]) hP hD
  refine lv_aload_n hx hb (dk_at dkX9_init 6 rfl) rfl (lv_at hl 0 rfl) ?_
  refine lv_sipush (v := 3575) hx hb (dk_at dkX9_init 7 rfl) (by decide) ?_
  refine va_newa (atype := .int) (ty := .int) (a0 := (3575, .inl (fun _ => 0))) hx hb (hts _ (List.mem_cons_of_mem _ mGA_37)) rfl hK hP hD hS hA (fun _ => rfl) (by decide) (by decide) (Nat.le_of_ble_eq_true rfl) (Nat.le_of_ble_eq_true rfl) (Nat.le_of_ble_eq_true rfl) (dk_at dkX9_init 8 rfl) (fun q_3 k_4 H hK hP hD hS => ?_)
  obtain ⟨hP, hD⟩ := gz_both (w := [(h0, .inr (9, [.ref q_1, .null, .null, .int 0, .int 0, .int 0])), (q_1, .inl (k_2, 3575, .inl (fun _ => 0))), (q_3, .inl (k_4, 3575, .inl (fun _ => 0)))]) hP hD
  have hK : va_K (dC, dI) vwCl [(k_2, .int), (k_4, .int)] s := hK
  refine W.widen (k := 2) (n := 7150) (Nat.le_of_ble_eq_true rfl) (Nat.le_of_ble_eq_true rfl) ?_
  refine va_putF (D := (dC, dI)) (ci := 9) (v := .ref q_3) (ty := .array .int) (C := RX9) (T := TX9) (N := 6) hx hb hts (fun w h => List.mem_cons_of_mem _ (jnGA_X9 w h)) tyX9 tyX9_ok nmX9 hown hK hP hD hS 0 rfl rfl 1 (by decide) (hts _ (List.mem_cons_of_mem _ mGA_112)) (fun _ h9 => h9) rfl hin rfl (by decide +kernel) rfl rfl (Nat.le_of_ble_eq_true rfl) (dk_at dkX9_init 9 rfl) (fun H locs hP hD hS => ?_)
  obtain ⟨hP, hD⟩ := gz_both (w := [(h0, .inr (9, [.ref q_1, .ref q_3, .null, .int 0, .int 0, .int 0])), (q_1, .inl (k_2, 3575, .inl (fun _ => 0))), (q_3, .inl (k_4, 3575, .inl (fun _ => 0)))]) hP hD
  refine lv_aload_n hx hb (dk_at dkX9_init 10 rfl) rfl (lv_at hl 0 rfl) ?_
  refine lv_sipush (v := 325) hx hb (dk_at dkX9_init 11 rfl) (by decide) ?_
  refine va_newa (atype := .int) (ty := .int) (a0 := (325, .inl (fun _ => 0))) hx hb (hts _ (List.mem_cons_of_mem _ mGA_37)) rfl hK hP hD hS hA (fun _ => rfl) (by decide) (by decide) (Nat.le_of_ble_eq_true rfl) (Nat.le_of_ble_eq_true rfl) (Nat.le_of_ble_eq_true rfl) (dk_at dkX9_init 12 rfl) (fun q_5 k_6 H hK hP hD hS => ?_)
  obtain ⟨hP, hD⟩ := gz_both (w := [(h0, .inr (9, [.ref q_1, .ref q_3, .null, .int 0, .int 0, .int 0])), (q_1, .inl (k_2, 3575, .inl (fun _ => 0))), (q_3, .inl (k_4, 3575, .inl (fun _ => 0))), (q_5, .inl (k_6, 325, .inl (fun _ => 0)))]) hP hD
  have hK : va_K (dC, dI) vwCl [(k_2, .int), (k_4, .int), (k_6, .int)] s := hK
  refine W.widen (k := 3) (n := 7475) (Nat.le_of_ble_eq_true rfl) (Nat.le_of_ble_eq_true rfl) ?_
  refine va_putF (D := (dC, dI)) (ci := 9) (v := .ref q_5) (ty := .array .int) (C := RX9) (T := TX9) (N := 6) hx hb hts (fun w h => List.mem_cons_of_mem _ (jnGA_X9 w h)) tyX9 tyX9_ok nmX9 hown hK hP hD hS 0 rfl rfl 2 (by decide) (hts _ (List.mem_cons_of_mem _ mGA_113)) (fun _ h9 => h9) rfl hin rfl (by decide +kernel) rfl rfl (Nat.le_of_ble_eq_true rfl) (dk_at dkX9_init 13 rfl) (fun H locs hP hD hS => ?_)
  obtain ⟨hP, hD⟩ := gz_both (w := [(h0, .inr (9, [.ref q_1, .ref q_3, .ref q_5, .int 0, .int 0, .int 0])), (q_1, .inl (k_2, 3575, .inl (fun _ => 0))), (q_3, .inl (k_4, 3575, .inl (fun _ => 0))), (q_5, .inl (k_6, 325, .inl (fun _ => 0)))]) hP hD
  have hP9 := hP.sub (ws' := [(h0, .inr (9, [.ref q_1, .ref q_3, .ref q_5, .int 0, .int 0, .int 0])), (q_1, .inl (k_2, 3575, .inl (fun _ => 0))), (q_3, .inl (k_4, 3575, .inl (fun _ => 0))), (q_5, .inl (k_6, 325, .inl (fun _ => 0)))]) [0, 1, 2, 3] rfl
  have hD9 := hD.sub (ws' := [(h0, .inr (9, [.ref q_1, .ref q_3, .ref q_5, .int 0, .int 0, .int 0])), (q_1, .inl (k_2, 3575, .inl (fun _ => 0))), (q_3, .inl (k_4, 3575, .inl (fun _ => 0))), (q_5, .inl (k_6, 325, .inl (fun _ => 0)))]) [0, 1, 2, 3] (by decide +kernel) rfl
  have hK9 := hK.sub (tys' := [(k_2, .int), (k_4, .int), (k_6, .int)]) [0, 1, 2] rfl
  exact W.vret hx hb hr (fun t ht hW => ⟨⟨(), rfl, trivial, (fun n => [q_1, q_3, q_5].getD n 0), (fun n => [k_2, k_4, k_6].getD n k_2), by rw [ht]; exact hP9, va_K.moved hW.alike hK9, hD9⟩, hS.F ht⟩) hS.2.2 (dk_at dkX9_init 14 rfl)
noncomputable def lsX8_init : List (Nat × Instr × Nat) := [(0, .aload_n 0, 1), (1, .invokespecial 3, 3), (4, .aload_n 0, 1), (5, .sipush 325, 3), (8, .newarray .int, 2), (10, .putfield 9, 3), (13, .aload_n 0, 1), (14, .sipush 3575, 3), (17, .newarray .int, 2), (19, .putfield 15, 3), (22, .return_, 1)]
theorem dkX8_init : dkAll cX8_init lsX8_init = true := by decide +kernel
set_option maxHeartbeats 4000000 in
set_option maxRecDepth 100000 in
theorem fX8_init (l : Launch) (dC : Nat → ClassId) (dI : Nat → Nat → Nat) (sz : Nat) (h0 : Nat) : Met l yX8_init (.code yX8_init cX8_init 1 none :: wsGA) ({ frames := 1, cells := 2, slots := 3900, locals := 12 }) (va_Pc [.ref h0] (fun U => U.heap.size = sz ∧ va_P (dC, dI) vwCl [(h0, .inr (8, [.null, .null, .int 0, .int 0, .int 0]))] U.heap ∧ va_K (dC, dI) vwCl [] U ∧ va_D (fun _ => True) [(h0, .inr (8, [.null, .null, .int 0, .int 0, .int 0]))])) (va_Qv (fun (u : Unit) => True) (fun _ t => ∃ (q : Nat → Nat) (kk : Nat → ClassId), va_P (dC, dI) vwCl [(h0, .inr (8, [.ref (q 0), .ref (q 1), .int 0, .int 0, .int 0])), ((q 0), .inl ((kk 0), 325, .inl (fun _ => 0))), ((q 1), .inl ((kk 1), 3575, .inl (fun _ => 0)))] t.heap ∧ va_K (dC, dI) vwCl [((kk 0), .int), ((kk 1), .int)] t ∧ va_D (va_A [(h0, .inr (8, [.null, .null, .int 0, .int 0, .int 0]))] sz) [(h0, .inr (8, [.ref (q 0), .ref (q 1), .int 0, .int 0, .int 0])), ((q 0), .inl ((kk 0), 325, .inl (fun _ => 0))), ((q 1), .inl ((kk 1), 3575, .inl (fun _ => 0)))]) (va_A [(h0, .inr (8, [.null, .null, .int 0, .int 0, .int 0]))] sz)) 2 3900 (va_A [(h0, .inr (8, [.null, .null, .int 0, .int 0, .int 0]))] sz) := by
  refine Met.ofW (cc := cX8_init) (maxL := 1) (ret := none) (by decide) rfl ?_
  intro p e s m args below meth c s₁ B hml hv
  obtain ⟨rfl, hsz, hP, hK, hD0⟩ := hv
  have hx := B.exec
  have hb := B.bytes
  have hr := B.returns
  have hts := atoms_spec (ws := (.code yX8_init cX8_init 1 none :: wsGA)) B.pre
  have hown : s.vm.findClass RX8 = some m.cls := findClass_of_methodNamed B.named
  have hlocks := B.notSynchronized
  have hin : meth.name = "<init>" := (name_of_methodNamed B.named B.method).1
  subst hsz
  have hD := hD0.self (sz := s.heap.size)
  generalize hAe : va_A [(h0, .inr (8, [.null, .null, .int 0, .int 0, .int 0]))] s.heap.size = A at hD ⊢
  have hA : ∀ q : Nat, s.heap.size ≤ q → A q := fun q h => by rw [← hAe]; exact Or.inr h
  have hS : va_S A s.heap s.heap [] := va_S.rf
  have hl := lv_entry ([.ref h0]) (n := 1) (Nat.le_of_ble_eq_true rfl)
  rw [lg_entry_eq]
  generalize (lg_sl ([.ref h0]) ++ List.replicate (1 - (lg_sl ([.ref h0])).length) Slot.unset).toArray = ls at hl ⊢
  have hl : lv_has ls 1 [(0, .ref h0)] := hl
  refine lv_aload_n hx hb (dk_at dkX8_init 0 rfl) rfl (lv_at hl 0 rfl) ?_
  refine W.objInit hx hb hown (hts _ (List.mem_cons_of_mem _ mGA_116)) (hts _ (List.mem_cons_of_mem _ mGA_5)) (hts _ (List.mem_cons_of_mem _ mGA_6)) rfl (by rw [hml]; exact hl.1) rfl (dk_at dkX8_init 1 rfl) (Nat.le_of_ble_eq_true rfl) (Nat.le_of_ble_eq_true rfl) ?_
  refine W.eq (g2 := F0 m 4 ls []) rfl ?_
  refine lv_aload_n hx hb (dk_at dkX8_init 2 rfl) rfl (lv_at hl 0 rfl) ?_
  refine lv_sipush (v := 325) hx hb (dk_at dkX8_init 3 rfl) (by decide) ?_
  refine va_newa (atype := .int) (ty := .int) (a0 := (325, .inl (fun _ => 0))) hx hb (hts _ (List.mem_cons_of_mem _ mGA_37)) rfl hK hP hD hS hA (fun _ => rfl) (by decide) (by decide) (Nat.le_of_ble_eq_true rfl) (Nat.le_of_ble_eq_true rfl) (Nat.le_of_ble_eq_true rfl) (dk_at dkX8_init 4 rfl) (fun q_1 k_2 H hK hP hD hS => ?_)
  obtain ⟨hP, hD⟩ := gz_both (w := [(h0, .inr (8, [.null, .null, .int 0, .int 0, .int 0])), (q_1, .inl (k_2, 325, .inl (fun _ => 0)))]) hP hD
  have hK : va_K (dC, dI) vwCl [(k_2, .int)] s := hK
  refine W.widen (k := 1) (n := 325) (Nat.le_of_ble_eq_true rfl) (Nat.le_of_ble_eq_true rfl) ?_
  refine va_putF (D := (dC, dI)) (ci := 8) (v := .ref q_1) (ty := .array .int) (C := RX8) (T := TX8) (N := 5) hx hb hts (fun w h => List.mem_cons_of_mem _ (jnGA_X8 w h)) tyX8 tyX8_ok nmX8 hown hK hP hD hS 0 rfl rfl 0 (by decide) (hts _ (List.mem_cons_of_mem _ mGA_117)) (fun _ h9 => h9) rfl hin rfl (by decide +kernel) rfl rfl (Nat.le_of_ble_eq_true rfl) (dk_at dkX8_init 5 rfl) (fun H locs hP hD hS => ?_)
  obtain ⟨hP, hD⟩ := gz_both (w := [(h0, .inr (8, [.ref q_1, .null, .int 0, .int 0, .int 0])), (q_1, .inl (k_2, 325, .inl (fun _ => 0)))]) hP hD
  refine lv_aload_n hx hb (dk_at dkX8_init 6 rfl) rfl (lv_at hl 0 rfl) ?_
  refine lv_sipush (v := 3575) hx hb (dk_at dkX8_init 7 rfl) (by decide) ?_
  refine va_newa (atype := .int) (ty := .int) (a0 := (3575, .inl (fun _ => 0))) hx hb (hts _ (List.mem_cons_of_mem _ mGA_37)) rfl hK hP hD hS hA (fun _ => rfl) (by decide) (by decide) (Nat.le_of_ble_eq_true rfl) (Nat.le_of_ble_eq_true rfl) (Nat.le_of_ble_eq_true rfl) (dk_at dkX8_init 8 rfl) (fun q_3 k_4 H hK hP hD hS => ?_)
  obtain ⟨hP, hD⟩ := gz_both (w := [(h0, .inr (8, [.ref q_1, .null, .int 0, .int 0, .int 0])), (q_1, .inl (k_2, 325, .inl (fun _ => 0))), (q_3, .inl (k_4, 3575, .inl (fun _ => 0)))]) hP hD
  have hK : va_K (dC, dI) vwCl [(k_2, .int), (k_4, .int)] s := hK
  refine W.widen (k := 2) (n := 3900) (Nat.le_of_ble_eq_true rfl) (Nat.le_of_ble_eq_true rfl) ?_
  refine va_putF (D := (dC, dI)) (ci := 8) (v := .ref q_3) (ty := .array .int) (C := RX8) (T := TX8) (N := 5) hx hb hts (fun w h => List.mem_cons_of_mem _ (jnGA_X8 w h)) tyX8 tyX8_ok nmX8 hown hK hP hD hS 0 rfl rfl 1 (by decide) (hts _ (List.mem_cons_of_mem _ mGA_118)) (fun _ h9 => h9) rfl hin rfl (by decide +kernel) rfl rfl (Nat.le_of_ble_eq_true rfl) (dk_at dkX8_init 9 rfl) (fun H locs hP hD hS => ?_)
  obtain ⟨hP, hD⟩ := gz_both (w := [(h0, .inr (8, [.ref q_1, .ref q_3, .int 0, .int 0, .int 0])), (q_1, .inl (k_2, 325, .inl (fun _ => 0))), (q_3, .inl (k_4, 3575, .inl (fun _ => 0)))]) hP hD
  have hP9 := hP.sub (ws' := [(h0, .inr (8, [.ref q_1, .ref q_3, .int 0, .int 0, .int 0])), (q_1, .inl (k_2, 325, .inl (fun _ => 0))), (q_3, .inl (k_4, 3575, .inl (fun _ => 0)))]) [0, 1, 2] rfl
  have hD9 := hD.sub (ws' := [(h0, .inr (8, [.ref q_1, .ref q_3, .int 0, .int 0, .int 0])), (q_1, .inl (k_2, 325, .inl (fun _ => 0))), (q_3, .inl (k_4, 3575, .inl (fun _ => 0)))]) [0, 1, 2] (by decide +kernel) rfl
  have hK9 := hK.sub (tys' := [(k_2, .int), (k_4, .int)]) [0, 1] rfl
  exact W.vret hx hb hr (fun t ht hW => ⟨⟨(), rfl, trivial, (fun n => [q_1, q_3].getD n 0), (fun n => [k_2, k_4].getD n k_2), by rw [ht]; exact hP9, va_K.moved hW.alike hK9, hD9⟩, hS.F ht⟩) hS.2.2 (dk_at dkX8_init 10 rfl)
noncomputable def lsX4_init : List (Nat × Instr × Nat) := [(0, .aload_n 0, 1), (1, .invokespecial 3, 3), (4, .aload_n 0, 1), (5, .bipush 25, 2), (7, .newarray .int, 2), (9, .putfield 11, 3), (12, .aload_n 0, 1), (13, .sipush 625, 3), (16, .newarray .int, 2), (18, .putfield 15, 3), (21, .aload_n 0, 1), (22, .iconst 0, 1), (23, .putfield 18, 3), (26, .return_, 1)]
theorem dkX4_init : dkAll cX4_init lsX4_init = true := by decide +kernel
set_option maxHeartbeats 4000000 in
set_option maxRecDepth 100000 in
theorem fX4_init (l : Launch) (dC : Nat → ClassId) (dI : Nat → Nat → Nat) (sz : Nat) (h0 : Nat) : Met l yX4_init (.code yX4_init cX4_init 1 none :: wsGA) ({ frames := 1, cells := 2, slots := 650, locals := 12 }) (va_Pc [.ref h0] (fun U => U.heap.size = sz ∧ va_P (dC, dI) vwCl [(h0, .inr (4, [.null, .null, .int 0]))] U.heap ∧ va_K (dC, dI) vwCl [] U ∧ va_D (fun _ => True) [(h0, .inr (4, [.null, .null, .int 0]))])) (va_Qv (fun (u : Unit) => True) (fun _ t => ∃ (q : Nat → Nat) (kk : Nat → ClassId), va_P (dC, dI) vwCl [(h0, .inr (4, [.ref (q 0), .ref (q 1), .int 0])), ((q 0), .inl ((kk 0), 25, .inl (fun _ => 0))), ((q 1), .inl ((kk 1), 625, .inl (fun _ => 0)))] t.heap ∧ va_K (dC, dI) vwCl [((kk 0), .int), ((kk 1), .int)] t ∧ va_D (va_A [(h0, .inr (4, [.null, .null, .int 0]))] sz) [(h0, .inr (4, [.ref (q 0), .ref (q 1), .int 0])), ((q 0), .inl ((kk 0), 25, .inl (fun _ => 0))), ((q 1), .inl ((kk 1), 625, .inl (fun _ => 0)))]) (va_A [(h0, .inr (4, [.null, .null, .int 0]))] sz)) 2 650 (va_A [(h0, .inr (4, [.null, .null, .int 0]))] sz) := by
  refine Met.ofW (cc := cX4_init) (maxL := 1) (ret := none) (by decide) rfl ?_
  intro p e s m args below meth c s₁ B hml hv
  obtain ⟨rfl, hsz, hP, hK, hD0⟩ := hv
  have hx := B.exec
  have hb := B.bytes
  have hr := B.returns
  have hts := atoms_spec (ws := (.code yX4_init cX4_init 1 none :: wsGA)) B.pre
  have hown : s.vm.findClass RX4 = some m.cls := findClass_of_methodNamed B.named
  have hlocks := B.notSynchronized
  have hin : meth.name = "<init>" := (name_of_methodNamed B.named B.method).1
  subst hsz
  have hD := hD0.self (sz := s.heap.size)
  generalize hAe : va_A [(h0, .inr (4, [.null, .null, .int 0]))] s.heap.size = A at hD ⊢
  have hA : ∀ q : Nat, s.heap.size ≤ q → A q := fun q h => by rw [← hAe]; exact Or.inr h
  have hS : va_S A s.heap s.heap [] := va_S.rf
  have hl := lv_entry ([.ref h0]) (n := 1) (Nat.le_of_ble_eq_true rfl)
  rw [lg_entry_eq]
  generalize (lg_sl ([.ref h0]) ++ List.replicate (1 - (lg_sl ([.ref h0])).length) Slot.unset).toArray = ls at hl ⊢
  have hl : lv_has ls 1 [(0, .ref h0)] := hl
  refine lv_aload_n hx hb (dk_at dkX4_init 0 rfl) rfl (lv_at hl 0 rfl) ?_
  refine W.objInit hx hb hown (hts _ (List.mem_cons_of_mem _ mGA_121)) (hts _ (List.mem_cons_of_mem _ mGA_5)) (hts _ (List.mem_cons_of_mem _ mGA_6)) rfl (by rw [hml]; exact hl.1) rfl (dk_at dkX4_init 1 rfl) (Nat.le_of_ble_eq_true rfl) (Nat.le_of_ble_eq_true rfl) ?_
  refine W.eq (g2 := F0 m 4 ls []) rfl ?_
  refine lv_aload_n hx hb (dk_at dkX4_init 2 rfl) rfl (lv_at hl 0 rfl) ?_
  refine lv_bipush (v := 25) hx hb (dk_at dkX4_init 3 rfl) (by decide) ?_
  refine va_newa (atype := .int) (ty := .int) (a0 := (25, .inl (fun _ => 0))) hx hb (hts _ (List.mem_cons_of_mem _ mGA_37)) rfl hK hP hD hS hA (fun _ => rfl) (by decide) (by decide) (Nat.le_of_ble_eq_true rfl) (Nat.le_of_ble_eq_true rfl) (Nat.le_of_ble_eq_true rfl) (dk_at dkX4_init 4 rfl) (fun q_1 k_2 H hK hP hD hS => ?_)
  obtain ⟨hP, hD⟩ := gz_both (w := [(h0, .inr (4, [.null, .null, .int 0])), (q_1, .inl (k_2, 25, .inl (fun _ => 0)))]) hP hD
  have hK : va_K (dC, dI) vwCl [(k_2, .int)] s := hK
  refine W.widen (k := 1) (n := 25) (Nat.le_of_ble_eq_true rfl) (Nat.le_of_ble_eq_true rfl) ?_
  refine va_putF (D := (dC, dI)) (ci := 4) (v := .ref q_1) (ty := .array .int) (C := RX4) (T := TX4) (N := 3) hx hb hts (fun w h => List.mem_cons_of_mem _ (jnGA_X4 w h)) tyX4 tyX4_ok nmX4 hown hK hP hD hS 0 rfl rfl 0 (by decide) (hts _ (List.mem_cons_of_mem _ mGA_122)) (fun _ h9 => h9) rfl hin rfl (by decide +kernel) rfl rfl (Nat.le_of_ble_eq_true rfl) (dk_at dkX4_init 5 rfl) (fun H locs hP hD hS => ?_)
  obtain ⟨hP, hD⟩ := gz_both (w := [(h0, .inr (4, [.ref q_1, .null, .int 0])), (q_1, .inl (k_2, 25, .inl (fun _ => 0)))]) hP hD
  refine lv_aload_n hx hb (dk_at dkX4_init 6 rfl) rfl (lv_at hl 0 rfl) ?_
  refine lv_sipush (v := 625) hx hb (dk_at dkX4_init 7 rfl) (by decide) ?_
  refine va_newa (atype := .int) (ty := .int) (a0 := (625, .inl (fun _ => 0))) hx hb (hts _ (List.mem_cons_of_mem _ mGA_37)) rfl hK hP hD hS hA (fun _ => rfl) (by decide) (by decide) (Nat.le_of_ble_eq_true rfl) (Nat.le_of_ble_eq_true rfl) (Nat.le_of_ble_eq_true rfl) (dk_at dkX4_init 8 rfl) (fun q_3 k_4 H hK hP hD hS => ?_)
  obtain ⟨hP, hD⟩ := gz_both (w := [(h0, .inr (4, [.ref q_1, .null, .int 0])), (q_1, .inl (k_2, 25, .inl (fun _ => 0))), (q_3, .inl (k_4, 625, .inl (fun _ => 0)))]) hP hD
  have hK : va_K (dC, dI) vwCl [(k_2, .int), (k_4, .int)] s := hK
  refine W.widen (k := 2) (n := 650) (Nat.le_of_ble_eq_true rfl) (Nat.le_of_ble_eq_true rfl) ?_
  refine va_putF (D := (dC, dI)) (ci := 4) (v := .ref q_3) (ty := .array .int) (C := RX4) (T := TX4) (N := 3) hx hb hts (fun w h => List.mem_cons_of_mem _ (jnGA_X4 w h)) tyX4 tyX4_ok nmX4 hown hK hP hD hS 0 rfl rfl 1 (by decide) (hts _ (List.mem_cons_of_mem _ mGA_123)) (fun _ h9 => h9) rfl hin rfl (by decide +kernel) rfl rfl (Nat.le_of_ble_eq_true rfl) (dk_at dkX4_init 9 rfl) (fun H locs hP hD hS => ?_)
  obtain ⟨hP, hD⟩ := gz_both (w := [(h0, .inr (4, [.ref q_1, .ref q_3, .int 0])), (q_1, .inl (k_2, 25, .inl (fun _ => 0))), (q_3, .inl (k_4, 625, .inl (fun _ => 0)))]) hP hD
  refine lv_aload_n hx hb (dk_at dkX4_init 10 rfl) rfl (lv_at hl 0 rfl) ?_
  refine lv_iconst (v := 0) hx hb (dk_at dkX4_init 11 rfl) (by decide) ?_
  refine va_put (D := (dC, dI)) (ci := 4) (v := .int 0) (ty := .int) (C := RX4) (T := TX4) (N := 3) hx hb hts (fun w h => List.mem_cons_of_mem _ (jnGA_X4 w h)) tyX4 tyX4_ok nmX4 hown hK hP hD hS 0 rfl rfl 2 (by decide) (hts _ (List.mem_cons_of_mem _ mGA_124)) (fun _ h9 => h9) rfl (by decide +kernel) rfl rfl (Nat.le_of_ble_eq_true rfl) (dk_at dkX4_init 12 rfl) (fun H locs hP hD hS => ?_)
  obtain ⟨hP, hD⟩ := gz_both (w := [(h0, .inr (4, [.ref q_1, .ref q_3, .int 0])), (q_1, .inl (k_2, 25, .inl (fun _ => 0))), (q_3, .inl (k_4, 625, .inl (fun _ => 0)))]) hP hD
  have hP9 := hP.sub (ws' := [(h0, .inr (4, [.ref q_1, .ref q_3, .int 0])), (q_1, .inl (k_2, 25, .inl (fun _ => 0))), (q_3, .inl (k_4, 625, .inl (fun _ => 0)))]) [0, 1, 2] rfl
  have hD9 := hD.sub (ws' := [(h0, .inr (4, [.ref q_1, .ref q_3, .int 0])), (q_1, .inl (k_2, 25, .inl (fun _ => 0))), (q_3, .inl (k_4, 625, .inl (fun _ => 0)))]) [0, 1, 2] (by decide +kernel) rfl
  have hK9 := hK.sub (tys' := [(k_2, .int), (k_4, .int)]) [0, 1] rfl
  exact W.vret hx hb hr (fun t ht hW => ⟨⟨(), rfl, trivial, (fun n => [q_1, q_3].getD n 0), (fun n => [k_2, k_4].getD n k_2), by rw [ht]; exact hP9, va_K.moved hW.alike hK9, hD9⟩, hS.F ht⟩) hS.2.2 (dk_at dkX4_init 13 rfl)
noncomputable def lsX10_init : List (Nat × Instr × Nat) := [(0, .aload_n 0, 1), (1, .invokespecial 3, 3), (4, .aload_n 0, 1), (5, .sipush 1600, 3), (8, .newarray .byte, 2), (10, .putfield 9, 3), (13, .aload_n 0, 1), (14, .iconst 0, 1), (15, .putfield 15, 3), (18, .return_, 1)]
theorem dkX10_init : dkAll cX10_init lsX10_init = true := by decide +kernel
set_option maxHeartbeats 4000000 in
set_option maxRecDepth 100000 in
theorem fX10_init (l : Launch) (dC : Nat → ClassId) (dI : Nat → Nat → Nat) (sz : Nat) (h0 : Nat) : Met l yX10_init (.code yX10_init cX10_init 1 none :: wsGA) ({ frames := 1, cells := 1, slots := 1600, locals := 12 }) (va_Pc [.ref h0] (fun U => U.heap.size = sz ∧ va_P (dC, dI) vwCl [(h0, .inr (10, [.null, .int 0]))] U.heap ∧ va_K (dC, dI) vwCl [] U ∧ va_D (fun _ => True) [(h0, .inr (10, [.null, .int 0]))])) (va_Qv (fun (u : Unit) => True) (fun _ t => ∃ (q : Nat → Nat) (kk : Nat → ClassId), va_P (dC, dI) vwCl [(h0, .inr (10, [.ref (q 0), .int 0])), ((q 0), .inl ((kk 0), 1600, .inl (fun _ => 0)))] t.heap ∧ va_K (dC, dI) vwCl [((kk 0), .byte)] t ∧ va_D (va_A [(h0, .inr (10, [.null, .int 0]))] sz) [(h0, .inr (10, [.ref (q 0), .int 0])), ((q 0), .inl ((kk 0), 1600, .inl (fun _ => 0)))]) (va_A [(h0, .inr (10, [.null, .int 0]))] sz)) 1 1600 (va_A [(h0, .inr (10, [.null, .int 0]))] sz) := by
  refine Met.ofW (cc := cX10_init) (maxL := 1) (ret := none) (by decide) rfl ?_
  intro p e s m args below meth c s₁ B hml hv
  obtain ⟨rfl, hsz, hP, hK, hD0⟩ := hv
  have hx := B.exec
  have hb := B.bytes
  have hr := B.returns
  have hts := atoms_spec (ws := (.code yX10_init cX10_init 1 none :: wsGA)) B.pre
  have hown : s.vm.findClass RX10 = some m.cls := findClass_of_methodNamed B.named
  have hlocks := B.notSynchronized
  have hin : meth.name = "<init>" := (name_of_methodNamed B.named B.method).1
  subst hsz
  have hD := hD0.self (sz := s.heap.size)
  generalize hAe : va_A [(h0, .inr (10, [.null, .int 0]))] s.heap.size = A at hD ⊢
  have hA : ∀ q : Nat, s.heap.size ≤ q → A q := fun q h => by rw [← hAe]; exact Or.inr h
  have hS : va_S A s.heap s.heap [] := va_S.rf
  have hl := lv_entry ([.ref h0]) (n := 1) (Nat.le_of_ble_eq_true rfl)
  rw [lg_entry_eq]
  generalize (lg_sl ([.ref h0]) ++ List.replicate (1 - (lg_sl ([.ref h0])).length) Slot.unset).toArray = ls at hl ⊢
  have hl : lv_has ls 1 [(0, .ref h0)] := hl
  refine lv_aload_n hx hb (dk_at dkX10_init 0 rfl) rfl (lv_at hl 0 rfl) ?_
  refine W.objInit hx hb hown (hts _ (List.mem_cons_of_mem _ mGA_62)) (hts _ (List.mem_cons_of_mem _ mGA_5)) (hts _ (List.mem_cons_of_mem _ mGA_6)) rfl (by rw [hml]; exact hl.1) rfl (dk_at dkX10_init 1 rfl) (Nat.le_of_ble_eq_true rfl) (Nat.le_of_ble_eq_true rfl) ?_
  refine W.eq (g2 := F0 m 4 ls []) rfl ?_
  refine lv_aload_n hx hb (dk_at dkX10_init 2 rfl) rfl (lv_at hl 0 rfl) ?_
  refine lv_sipush (v := 1600) hx hb (dk_at dkX10_init 3 rfl) (by decide) ?_
  refine va_newa (atype := .byte) (ty := .byte) (a0 := (1600, .inl (fun _ => 0))) hx hb (hts _ (List.mem_cons_of_mem _ mGA_39)) rfl hK hP hD hS hA (fun _ => rfl) (by decide) (by decide) (Nat.le_of_ble_eq_true rfl) (Nat.le_of_ble_eq_true rfl) (Nat.le_of_ble_eq_true rfl) (dk_at dkX10_init 4 rfl) (fun q_1 k_2 H hK hP hD hS => ?_)
  obtain ⟨hP, hD⟩ := gz_both (w := [(h0, .inr (10, [.null, .int 0])), (q_1, .inl (k_2, 1600, .inl (fun _ => 0)))]) hP hD
  have hK : va_K (dC, dI) vwCl [(k_2, .byte)] s := hK
  refine W.widen (k := 1) (n := 1600) (Nat.le_of_ble_eq_true rfl) (Nat.le_of_ble_eq_true rfl) ?_
  refine va_putF (D := (dC, dI)) (ci := 10) (v := .ref q_1) (ty := .array .byte) (C := RX10) (T := TX10) (N := 2) hx hb hts (fun w h => List.mem_cons_of_mem _ (jnGA_X10 w h)) tyX10 tyX10_ok nmX10 hown hK hP hD hS 0 rfl rfl 0 (by decide) (hts _ (List.mem_cons_of_mem _ mGA_63)) (fun _ h9 => h9) rfl hin rfl (by decide +kernel) rfl rfl (Nat.le_of_ble_eq_true rfl) (dk_at dkX10_init 5 rfl) (fun H locs hP hD hS => ?_)
  obtain ⟨hP, hD⟩ := gz_both (w := [(h0, .inr (10, [.ref q_1, .int 0])), (q_1, .inl (k_2, 1600, .inl (fun _ => 0)))]) hP hD
  refine lv_aload_n hx hb (dk_at dkX10_init 6 rfl) rfl (lv_at hl 0 rfl) ?_
  refine lv_iconst (v := 0) hx hb (dk_at dkX10_init 7 rfl) (by decide) ?_
  refine va_put (D := (dC, dI)) (ci := 10) (v := .int 0) (ty := .int) (C := RX10) (T := TX10) (N := 2) hx hb hts (fun w h => List.mem_cons_of_mem _ (jnGA_X10 w h)) tyX10 tyX10_ok nmX10 hown hK hP hD hS 0 rfl rfl 1 (by decide) (hts _ (List.mem_cons_of_mem _ mGA_64)) (fun _ h9 => h9) rfl (by decide +kernel) rfl rfl (Nat.le_of_ble_eq_true rfl) (dk_at dkX10_init 8 rfl) (fun H locs hP hD hS => ?_)
  obtain ⟨hP, hD⟩ := gz_both (w := [(h0, .inr (10, [.ref q_1, .int 0])), (q_1, .inl (k_2, 1600, .inl (fun _ => 0)))]) hP hD
  have hP9 := hP.sub (ws' := [(h0, .inr (10, [.ref q_1, .int 0])), (q_1, .inl (k_2, 1600, .inl (fun _ => 0)))]) [0, 1] rfl
  have hD9 := hD.sub (ws' := [(h0, .inr (10, [.ref q_1, .int 0])), (q_1, .inl (k_2, 1600, .inl (fun _ => 0)))]) [0, 1] (by decide +kernel) rfl
  have hK9 := hK.sub (tys' := [(k_2, .byte)]) [0] rfl
  exact W.vret hx hb hr (fun t ht hW => ⟨⟨(), rfl, trivial, (fun n => [q_1].getD n 0), (fun n => [k_2].getD n k_2), by rw [ht]; exact hP9, va_K.moved hW.alike hK9, hD9⟩, hS.F ht⟩) hS.2.2 (dk_at dkX10_init 9 rfl)
noncomputable def lsX1_init : List (Nat × Instr × Nat) := [(0, .aload_n 0, 1), (1, .invokespecial 3, 3), (4, .aload_n 0, 1), (5, .new 9, 3), (8, .dup, 1), (9, .invokespecial 11, 3), (12, .putfield 12, 3), (15, .aload_n 0, 1), (16, .bipush 24, 2), (18, .newarray .int, 2), (20, .putfield 18, 3), (23, .aload_n 0, 1), (24, .bipush 24, 2), (26, .newarray .int, 2), (28, .putfield 22, 3), (31, .aload_n 0, 1), (32, .bipush 24, 2), (34, .newarray .long, 2), (36, .putfield 25, 3), (39, .aload_n 0, 1), (40, .bipush 25, 2), (42, .newarray .int, 2), (44, .putfield 29, 3), (47, .aload_n 0, 1), (48, .iconst 0, 1), (49, .putfield 32, 3), (52, .aload_n 0, 1), (53, .iconst 0, 1), (54, .putfield 36, 3), (57, .return_, 1)]
theorem dkX1_init : dkAll cX1_init lsX1_init = true := by decide +kernel
set_option maxHeartbeats 4000000 in
set_option maxRecDepth 100000 in
theorem fX1_init (l : Launch) (dC : Nat → ClassId) (dI : Nat → Nat → Nat) (sz : Nat) (h0 : Nat) : Met l yX1_init (.code yX1_init cX1_init 1 none :: wsGA) ({ frames := 2, cells := 7, slots := 402, locals := 32 }) (va_Pc [.ref h0] (fun U => U.heap.size = sz ∧ va_P (dC, dI) vwCl [(h0, .inr (1, [.null, .null, .null, .null, .null, .int 0, .int 0]))] U.heap ∧ va_K (dC, dI) vwCl [] U ∧ va_D (fun _ => True) [(h0, .inr (1, [.null, .null, .null, .null, .null, .int 0, .int 0]))] ∧ nzA U)) (va_Qv (fun (u : Unit) => True) (fun _ t => ∃ (q : Nat → Nat) (kk : Nat → ClassId), va_P (dC, dI) vwCl [(h0, .inr (1, [.ref (q 0), .ref (q 3), .ref (q 4), .ref (q 5), .ref (q 6), .int 0, .int 0])), ((q 3), .inl ((kk 2), 24, .inl (fun _ => 0))), ((q 4), .inl ((kk 3), 24, .inl (fun _ => 0))), ((q 5), .inl ((kk 4), 24, .inr (.inl (fun _ => 0)))), ((q 6), .inl ((kk 5), 25, .inl (fun _ => 0))), ((q 0), .inr (3, [.int 0, .int 0, .int 0, .ref (q 1), .ref (q 2)])), ((q 1), .inl ((kk 0), 25, .inl (fun _ => 0))), ((q 2), .inl ((kk 1), 275, .inl (fun _ => 0)))] t.heap ∧ va_K (dC, dI) vwCl [((kk 2), .int), ((kk 3), .int), ((kk 4), .long), ((kk 5), .int), ((kk 0), .int), ((kk 1), .int)] t ∧ va_D (va_A [(h0, .inr (1, [.null, .null, .null, .null, .null, .int 0, .int 0]))] sz) [(h0, .inr (1, [.ref (q 0), .ref (q 3), .ref (q 4), .ref (q 5), .ref (q 6), .int 0, .int 0])), ((q 3), .inl ((kk 2), 24, .inl (fun _ => 0))), ((q 4), .inl ((kk 3), 24, .inl (fun _ => 0))), ((q 5), .inl ((kk 4), 24, .inr (.inl (fun _ => 0)))), ((q 6), .inl ((kk 5), 25, .inl (fun _ => 0))), ((q 0), .inr (3, [.int 0, .int 0, .int 0, .ref (q 1), .ref (q 2)])), ((q 1), .inl ((kk 0), 25, .inl (fun _ => 0))), ((q 2), .inl ((kk 1), 275, .inl (fun _ => 0)))]) (va_A [(h0, .inr (1, [.null, .null, .null, .null, .null, .int 0, .int 0]))] sz)) 7 402 (va_A [(h0, .inr (1, [.null, .null, .null, .null, .null, .int 0, .int 0]))] sz) := by
  refine Met.ofW (cc := cX1_init) (maxL := 1) (ret := none) (by decide) rfl ?_
  intro p e s m args below meth c s₁ B hml hv
  obtain ⟨rfl, hsz, hP, hK, hD0, hz⟩ := hv
  have hx := B.exec
  have hb := B.bytes
  have hr := B.returns
  have hts := atoms_spec (ws := (.code yX1_init cX1_init 1 none :: wsGA)) B.pre
  have hown : s.vm.findClass RX1 = some m.cls := findClass_of_methodNamed B.named
  have hlocks := B.notSynchronized
  have hin : meth.name = "<init>" := (name_of_methodNamed B.named B.method).1
  subst hsz
  have hD := hD0.self (sz := s.heap.size)
  generalize hAe : va_A [(h0, .inr (1, [.null, .null, .null, .null, .null, .int 0, .int 0]))] s.heap.size = A at hD ⊢
  have hA : ∀ q : Nat, s.heap.size ≤ q → A q := fun q h => by rw [← hAe]; exact Or.inr h
  have hS : va_S A s.heap s.heap [] := va_S.rf
  have hl := lv_entry ([.ref h0]) (n := 1) (Nat.le_of_ble_eq_true rfl)
  rw [lg_entry_eq]
  generalize (lg_sl ([.ref h0]) ++ List.replicate (1 - (lg_sl ([.ref h0])).length) Slot.unset).toArray = ls at hl ⊢
  have hl : lv_has ls 1 [(0, .ref h0)] := hl
  refine lv_aload_n hx hb (dk_at dkX1_init 0 rfl) rfl (lv_at hl 0 rfl) ?_
  refine W.objInit hx hb hown (hts _ (List.mem_cons_of_mem _ mGA_98)) (hts _ (List.mem_cons_of_mem _ mGA_5)) (hts _ (List.mem_cons_of_mem _ mGA_6)) rfl (by rw [hml]; exact hl.1) rfl (dk_at dkX1_init 1 rfl) (Nat.le_of_ble_eq_true rfl) (Nat.le_of_ble_eq_true rfl) ?_
  refine W.eq (g2 := F0 m 4 ls []) rfl ?_
  refine lv_aload_n hx hb (dk_at dkX1_init 2 rfl) rfl (lv_at hl 0 rfl) ?_
  refine va_new (ci := 3) (fs := [.int 0, .int 0, .int 0, .null, .null]) (C := RX3) (T := TX3) (N := 5) hx hb hts (fun w h => List.mem_cons_of_mem _ (jnGA_X3 w h)) tyX3 tyX3_ok hown (hts _ (List.mem_cons_of_mem _ mGA_99)) (hts _ (List.mem_cons_of_mem _ mGA_17)) (hts _ (List.mem_cons_of_mem _ mGA_18)) hK hP hD hS hA rfl dfX3 (Nat.le_of_ble_eq_true rfl) (Nat.le_of_ble_eq_true rfl) (dk_at dkX1_init 3 rfl) (fun q_1 H hP hD hS => ?_)
  refine W.widen (k := 1) (n := 5) (Nat.le_of_ble_eq_true rfl) (Nat.le_of_ble_eq_true rfl) ?_
  refine lv_dup hx hb (dk_at dkX1_init 4 rfl) rfl ?_
  obtain ⟨hPc, hDc, hFc⟩ := gy_cut hP hD hS hA
  have hKc := hK.sub (tys' := []) [] rfl
  refine va_callv (va_runIN (As := []) (rest := [.ref q_1, .ref h0]) ⟨hx, hb, hml, hown, hts⟩ (fX3_init l dC dI H.size q_1) (⟨va_cnB 0 hts (gz_gP mGA_92 goodGA) rfl rfl rfl (nzA_X1_11 hz) (hts _ (List.mem_cons_of_mem _ mGA_18)) (by decide +kernel) ⟨Nat.le_of_ble_eq_true rfl, Nat.le_of_ble_eq_true rfl⟩, rfl, (hts _ (List.mem_cons_of_mem _ mGA_91))⟩) ⟨bl_W, fun U hU hW => ⟨rfl, by rw [hU], by rw [hU]; exact hPc, va_K.moved hW.alike hKc, hDc.weaken (fun _ _ _ _ => trivial)⟩⟩ rfl rfl hl.1 rfl (lv_room (Nat.le_of_ble_eq_true rfl)) (dk_at dkX1_init 5 rfl) ⟨Nat.le_of_ble_eq_true rfl, Nat.le_of_ble_eq_true rfl⟩) hS (fun q _ h => hFc q h) hFc (fun  u t H1 locs ht hvm hw hB hz1 hk1 hS => ?_)
  obtain ⟨q_2, kk_3, hP1, hK1, hD1⟩ := hB
  rw [ht] at hP1
  have hK1 := va_K.moved hvm.symm hK1
  obtain ⟨hP, hD⟩ := gy_join hP hD hk1 hFc hP1 hD1
  have hK := hK.app hK1
  have hK : va_K (dC, dI) vwCl [((kk_3 0), .int), ((kk_3 1), .int)] s := hK
  generalize H1 = H at hP hS ⊢
  refine W.widen (k := 3) (n := 305) (Nat.le_of_ble_eq_true rfl) (Nat.le_of_ble_eq_true rfl) ?_
  refine va_putF (D := (dC, dI)) (ci := 1) (v := .ref q_1) (ty := .object "SightedMonths$Frame") (C := RX1) (T := TX1) (N := 7) hx hb hts (fun w h => List.mem_cons_of_mem _ (jnGA_X1 w h)) tyX1 tyX1_ok nmX1 hown hK hP hD hS 0 rfl rfl 0 (by decide) (hts _ (List.mem_cons_of_mem _ mGA_100)) (fun _ h9 => h9) rfl hin rfl (by decide +kernel) rfl rfl (Nat.le_of_ble_eq_true rfl) (dk_at dkX1_init 6 rfl) (fun H locs hP hD hS => ?_)
  obtain ⟨hP, hD⟩ := gz_both (w := [(h0, .inr (1, [.ref q_1, .null, .null, .null, .null, .int 0, .int 0])), (q_1, .inr (3, [.int 0, .int 0, .int 0, .ref (q_2 0), .ref (q_2 1)])), ((q_2 0), .inl ((kk_3 0), 25, .inl (fun _ => 0))), ((q_2 1), .inl ((kk_3 1), 275, .inl (fun _ => 0)))]) hP hD
  refine lv_aload_n hx hb (dk_at dkX1_init 7 rfl) rfl (lv_at hl 0 rfl) ?_
  refine lv_bipush (v := 24) hx hb (dk_at dkX1_init 8 rfl) (by decide) ?_
  refine va_newa (atype := .int) (ty := .int) (a0 := (24, .inl (fun _ => 0))) hx hb (hts _ (List.mem_cons_of_mem _ mGA_37)) rfl hK hP hD hS hA (fun _ => rfl) (by decide) (by decide) (Nat.le_of_ble_eq_true rfl) (Nat.le_of_ble_eq_true rfl) (Nat.le_of_ble_eq_true rfl) (dk_at dkX1_init 9 rfl) (fun q_5 k_6 H hK hP hD hS => ?_)
  obtain ⟨hP, hD⟩ := gz_both (w := [(h0, .inr (1, [.ref q_1, .null, .null, .null, .null, .int 0, .int 0])), (q_1, .inr (3, [.int 0, .int 0, .int 0, .ref (q_2 0), .ref (q_2 1)])), ((q_2 0), .inl ((kk_3 0), 25, .inl (fun _ => 0))), ((q_2 1), .inl ((kk_3 1), 275, .inl (fun _ => 0))), (q_5, .inl (k_6, 24, .inl (fun _ => 0)))]) hP hD
  have hK : va_K (dC, dI) vwCl [((kk_3 0), .int), ((kk_3 1), .int), (k_6, .int)] s := hK
  refine W.widen (k := 4) (n := 329) (Nat.le_of_ble_eq_true rfl) (Nat.le_of_ble_eq_true rfl) ?_
  refine va_putF (D := (dC, dI)) (ci := 1) (v := .ref q_5) (ty := .array .int) (C := RX1) (T := TX1) (N := 7) hx hb hts (fun w h => List.mem_cons_of_mem _ (jnGA_X1 w h)) tyX1 tyX1_ok nmX1 hown hK hP hD hS 0 rfl rfl 1 (by decide) (hts _ (List.mem_cons_of_mem _ mGA_101)) (fun _ h9 => h9) rfl hin rfl (by decide +kernel) rfl rfl (Nat.le_of_ble_eq_true rfl) (dk_at dkX1_init 10 rfl) (fun H locs hP hD hS => ?_)
  obtain ⟨hP, hD⟩ := gz_both (w := [(h0, .inr (1, [.ref q_1, .ref q_5, .null, .null, .null, .int 0, .int 0])), (q_1, .inr (3, [.int 0, .int 0, .int 0, .ref (q_2 0), .ref (q_2 1)])), ((q_2 0), .inl ((kk_3 0), 25, .inl (fun _ => 0))), ((q_2 1), .inl ((kk_3 1), 275, .inl (fun _ => 0))), (q_5, .inl (k_6, 24, .inl (fun _ => 0)))]) hP hD
  refine lv_aload_n hx hb (dk_at dkX1_init 11 rfl) rfl (lv_at hl 0 rfl) ?_
  refine lv_bipush (v := 24) hx hb (dk_at dkX1_init 12 rfl) (by decide) ?_
  refine va_newa (atype := .int) (ty := .int) (a0 := (24, .inl (fun _ => 0))) hx hb (hts _ (List.mem_cons_of_mem _ mGA_37)) rfl hK hP hD hS hA (fun _ => rfl) (by decide) (by decide) (Nat.le_of_ble_eq_true rfl) (Nat.le_of_ble_eq_true rfl) (Nat.le_of_ble_eq_true rfl) (dk_at dkX1_init 13 rfl) (fun q_7 k_8 H hK hP hD hS => ?_)
  obtain ⟨hP, hD⟩ := gz_both (w := [(h0, .inr (1, [.ref q_1, .ref q_5, .null, .null, .null, .int 0, .int 0])), (q_1, .inr (3, [.int 0, .int 0, .int 0, .ref (q_2 0), .ref (q_2 1)])), ((q_2 0), .inl ((kk_3 0), 25, .inl (fun _ => 0))), ((q_2 1), .inl ((kk_3 1), 275, .inl (fun _ => 0))), (q_5, .inl (k_6, 24, .inl (fun _ => 0))), (q_7, .inl (k_8, 24, .inl (fun _ => 0)))]) hP hD
  have hK : va_K (dC, dI) vwCl [((kk_3 0), .int), ((kk_3 1), .int), (k_6, .int), (k_8, .int)] s := hK
  refine W.widen (k := 5) (n := 353) (Nat.le_of_ble_eq_true rfl) (Nat.le_of_ble_eq_true rfl) ?_
  refine va_putF (D := (dC, dI)) (ci := 1) (v := .ref q_7) (ty := .array .int) (C := RX1) (T := TX1) (N := 7) hx hb hts (fun w h => List.mem_cons_of_mem _ (jnGA_X1 w h)) tyX1 tyX1_ok nmX1 hown hK hP hD hS 0 rfl rfl 2 (by decide) (hts _ (List.mem_cons_of_mem _ mGA_102)) (fun _ h9 => h9) rfl hin rfl (by decide +kernel) rfl rfl (Nat.le_of_ble_eq_true rfl) (dk_at dkX1_init 14 rfl) (fun H locs hP hD hS => ?_)
  obtain ⟨hP, hD⟩ := gz_both (w := [(h0, .inr (1, [.ref q_1, .ref q_5, .ref q_7, .null, .null, .int 0, .int 0])), (q_1, .inr (3, [.int 0, .int 0, .int 0, .ref (q_2 0), .ref (q_2 1)])), ((q_2 0), .inl ((kk_3 0), 25, .inl (fun _ => 0))), ((q_2 1), .inl ((kk_3 1), 275, .inl (fun _ => 0))), (q_5, .inl (k_6, 24, .inl (fun _ => 0))), (q_7, .inl (k_8, 24, .inl (fun _ => 0)))]) hP hD
  refine lv_aload_n hx hb (dk_at dkX1_init 15 rfl) rfl (lv_at hl 0 rfl) ?_
  refine lv_bipush (v := 24) hx hb (dk_at dkX1_init 16 rfl) (by decide) ?_
  refine va_newa (atype := .long) (ty := .long) (a0 := (24, .inr (.inl (fun _ => 0)))) hx hb (hts _ (List.mem_cons_of_mem _ mGA_103)) rfl hK hP hD hS hA (fun _ => rfl) (by decide) (by decide) (Nat.le_of_ble_eq_true rfl) (Nat.le_of_ble_eq_true rfl) (Nat.le_of_ble_eq_true rfl) (dk_at dkX1_init 17 rfl) (fun q_9 k_10 H hK hP hD hS => ?_)
  obtain ⟨hP, hD⟩ := gz_both (w := [(h0, .inr (1, [.ref q_1, .ref q_5, .ref q_7, .null, .null, .int 0, .int 0])), (q_1, .inr (3, [.int 0, .int 0, .int 0, .ref (q_2 0), .ref (q_2 1)])), ((q_2 0), .inl ((kk_3 0), 25, .inl (fun _ => 0))), ((q_2 1), .inl ((kk_3 1), 275, .inl (fun _ => 0))), (q_5, .inl (k_6, 24, .inl (fun _ => 0))), (q_7, .inl (k_8, 24, .inl (fun _ => 0))), (q_9, .inl (k_10, 24, .inr (.inl (fun _ => 0))))]) hP hD
  have hK : va_K (dC, dI) vwCl [((kk_3 0), .int), ((kk_3 1), .int), (k_6, .int), (k_8, .int), (k_10, .long)] s := hK
  refine W.widen (k := 6) (n := 377) (Nat.le_of_ble_eq_true rfl) (Nat.le_of_ble_eq_true rfl) ?_
  refine va_putF (D := (dC, dI)) (ci := 1) (v := .ref q_9) (ty := .array .long) (C := RX1) (T := TX1) (N := 7) hx hb hts (fun w h => List.mem_cons_of_mem _ (jnGA_X1 w h)) tyX1 tyX1_ok nmX1 hown hK hP hD hS 0 rfl rfl 3 (by decide) (hts _ (List.mem_cons_of_mem _ mGA_104)) (fun _ h9 => h9) rfl hin rfl (by decide +kernel) rfl rfl (Nat.le_of_ble_eq_true rfl) (dk_at dkX1_init 18 rfl) (fun H locs hP hD hS => ?_)
  obtain ⟨hP, hD⟩ := gz_both (w := [(h0, .inr (1, [.ref q_1, .ref q_5, .ref q_7, .ref q_9, .null, .int 0, .int 0])), (q_1, .inr (3, [.int 0, .int 0, .int 0, .ref (q_2 0), .ref (q_2 1)])), ((q_2 0), .inl ((kk_3 0), 25, .inl (fun _ => 0))), ((q_2 1), .inl ((kk_3 1), 275, .inl (fun _ => 0))), (q_5, .inl (k_6, 24, .inl (fun _ => 0))), (q_7, .inl (k_8, 24, .inl (fun _ => 0))), (q_9, .inl (k_10, 24, .inr (.inl (fun _ => 0))))]) hP hD
  refine lv_aload_n hx hb (dk_at dkX1_init 19 rfl) rfl (lv_at hl 0 rfl) ?_
  refine lv_bipush (v := 25) hx hb (dk_at dkX1_init 20 rfl) (by decide) ?_
  refine va_newa (atype := .int) (ty := .int) (a0 := (25, .inl (fun _ => 0))) hx hb (hts _ (List.mem_cons_of_mem _ mGA_37)) rfl hK hP hD hS hA (fun _ => rfl) (by decide) (by decide) (Nat.le_of_ble_eq_true rfl) (Nat.le_of_ble_eq_true rfl) (Nat.le_of_ble_eq_true rfl) (dk_at dkX1_init 21 rfl) (fun q_11 k_12 H hK hP hD hS => ?_)
  obtain ⟨hP, hD⟩ := gz_both (w := [(h0, .inr (1, [.ref q_1, .ref q_5, .ref q_7, .ref q_9, .null, .int 0, .int 0])), (q_1, .inr (3, [.int 0, .int 0, .int 0, .ref (q_2 0), .ref (q_2 1)])), ((q_2 0), .inl ((kk_3 0), 25, .inl (fun _ => 0))), ((q_2 1), .inl ((kk_3 1), 275, .inl (fun _ => 0))), (q_5, .inl (k_6, 24, .inl (fun _ => 0))), (q_7, .inl (k_8, 24, .inl (fun _ => 0))), (q_9, .inl (k_10, 24, .inr (.inl (fun _ => 0)))), (q_11, .inl (k_12, 25, .inl (fun _ => 0)))]) hP hD
  have hK : va_K (dC, dI) vwCl [((kk_3 0), .int), ((kk_3 1), .int), (k_6, .int), (k_8, .int), (k_10, .long), (k_12, .int)] s := hK
  refine W.widen (k := 7) (n := 402) (Nat.le_of_ble_eq_true rfl) (Nat.le_of_ble_eq_true rfl) ?_
  refine va_putF (D := (dC, dI)) (ci := 1) (v := .ref q_11) (ty := .array .int) (C := RX1) (T := TX1) (N := 7) hx hb hts (fun w h => List.mem_cons_of_mem _ (jnGA_X1 w h)) tyX1 tyX1_ok nmX1 hown hK hP hD hS 0 rfl rfl 4 (by decide) (hts _ (List.mem_cons_of_mem _ mGA_105)) (fun _ h9 => h9) rfl hin rfl (by decide +kernel) rfl rfl (Nat.le_of_ble_eq_true rfl) (dk_at dkX1_init 22 rfl) (fun H locs hP hD hS => ?_)
  obtain ⟨hP, hD⟩ := gz_both (w := [(h0, .inr (1, [.ref q_1, .ref q_5, .ref q_7, .ref q_9, .ref q_11, .int 0, .int 0])), (q_1, .inr (3, [.int 0, .int 0, .int 0, .ref (q_2 0), .ref (q_2 1)])), ((q_2 0), .inl ((kk_3 0), 25, .inl (fun _ => 0))), ((q_2 1), .inl ((kk_3 1), 275, .inl (fun _ => 0))), (q_5, .inl (k_6, 24, .inl (fun _ => 0))), (q_7, .inl (k_8, 24, .inl (fun _ => 0))), (q_9, .inl (k_10, 24, .inr (.inl (fun _ => 0)))), (q_11, .inl (k_12, 25, .inl (fun _ => 0)))]) hP hD
  refine lv_aload_n hx hb (dk_at dkX1_init 23 rfl) rfl (lv_at hl 0 rfl) ?_
  refine lv_iconst (v := 0) hx hb (dk_at dkX1_init 24 rfl) (by decide) ?_
  refine va_put (D := (dC, dI)) (ci := 1) (v := .int 0) (ty := .int) (C := RX1) (T := TX1) (N := 7) hx hb hts (fun w h => List.mem_cons_of_mem _ (jnGA_X1 w h)) tyX1 tyX1_ok nmX1 hown hK hP hD hS 0 rfl rfl 5 (by decide) (hts _ (List.mem_cons_of_mem _ mGA_106)) (fun _ h9 => h9) rfl (by decide +kernel) rfl rfl (Nat.le_of_ble_eq_true rfl) (dk_at dkX1_init 25 rfl) (fun H locs hP hD hS => ?_)
  obtain ⟨hP, hD⟩ := gz_both (w := [(h0, .inr (1, [.ref q_1, .ref q_5, .ref q_7, .ref q_9, .ref q_11, .int 0, .int 0])), (q_1, .inr (3, [.int 0, .int 0, .int 0, .ref (q_2 0), .ref (q_2 1)])), ((q_2 0), .inl ((kk_3 0), 25, .inl (fun _ => 0))), ((q_2 1), .inl ((kk_3 1), 275, .inl (fun _ => 0))), (q_5, .inl (k_6, 24, .inl (fun _ => 0))), (q_7, .inl (k_8, 24, .inl (fun _ => 0))), (q_9, .inl (k_10, 24, .inr (.inl (fun _ => 0)))), (q_11, .inl (k_12, 25, .inl (fun _ => 0)))]) hP hD
  refine lv_aload_n hx hb (dk_at dkX1_init 26 rfl) rfl (lv_at hl 0 rfl) ?_
  refine lv_iconst (v := 0) hx hb (dk_at dkX1_init 27 rfl) (by decide) ?_
  refine va_put (D := (dC, dI)) (ci := 1) (v := .int 0) (ty := .int) (C := RX1) (T := TX1) (N := 7) hx hb hts (fun w h => List.mem_cons_of_mem _ (jnGA_X1 w h)) tyX1 tyX1_ok nmX1 hown hK hP hD hS 0 rfl rfl 6 (by decide) (hts _ (List.mem_cons_of_mem _ mGA_107)) (fun _ h9 => h9) rfl (by decide +kernel) rfl rfl (Nat.le_of_ble_eq_true rfl) (dk_at dkX1_init 28 rfl) (fun H locs hP hD hS => ?_)
  obtain ⟨hP, hD⟩ := gz_both (w := [(h0, .inr (1, [.ref q_1, .ref q_5, .ref q_7, .ref q_9, .ref q_11, .int 0, .int 0])), (q_1, .inr (3, [.int 0, .int 0, .int 0, .ref (q_2 0), .ref (q_2 1)])), ((q_2 0), .inl ((kk_3 0), 25, .inl (fun _ => 0))), ((q_2 1), .inl ((kk_3 1), 275, .inl (fun _ => 0))), (q_5, .inl (k_6, 24, .inl (fun _ => 0))), (q_7, .inl (k_8, 24, .inl (fun _ => 0))), (q_9, .inl (k_10, 24, .inr (.inl (fun _ => 0)))), (q_11, .inl (k_12, 25, .inl (fun _ => 0)))]) hP hD
  have hP9 := hP.sub (ws' := [(h0, .inr (1, [.ref q_1, .ref q_5, .ref q_7, .ref q_9, .ref q_11, .int 0, .int 0])), (q_5, .inl (k_6, 24, .inl (fun _ => 0))), (q_7, .inl (k_8, 24, .inl (fun _ => 0))), (q_9, .inl (k_10, 24, .inr (.inl (fun _ => 0)))), (q_11, .inl (k_12, 25, .inl (fun _ => 0))), (q_1, .inr (3, [.int 0, .int 0, .int 0, .ref (q_2 0), .ref (q_2 1)])), ((q_2 0), .inl ((kk_3 0), 25, .inl (fun _ => 0))), ((q_2 1), .inl ((kk_3 1), 275, .inl (fun _ => 0)))]) [0, 4, 5, 6, 7, 1, 2, 3] rfl
  have hD9 := hD.sub (ws' := [(h0, .inr (1, [.ref q_1, .ref q_5, .ref q_7, .ref q_9, .ref q_11, .int 0, .int 0])), (q_5, .inl (k_6, 24, .inl (fun _ => 0))), (q_7, .inl (k_8, 24, .inl (fun _ => 0))), (q_9, .inl (k_10, 24, .inr (.inl (fun _ => 0)))), (q_11, .inl (k_12, 25, .inl (fun _ => 0))), (q_1, .inr (3, [.int 0, .int 0, .int 0, .ref (q_2 0), .ref (q_2 1)])), ((q_2 0), .inl ((kk_3 0), 25, .inl (fun _ => 0))), ((q_2 1), .inl ((kk_3 1), 275, .inl (fun _ => 0)))]) [0, 4, 5, 6, 7, 1, 2, 3] (by decide +kernel) rfl
  have hK9 := hK.sub (tys' := [(k_6, .int), (k_8, .int), (k_10, .long), (k_12, .int), ((kk_3 0), .int), ((kk_3 1), .int)]) [2, 3, 4, 5, 0, 1] rfl
  exact W.vret hx hb hr (fun t ht hW => ⟨⟨(), rfl, trivial, (fun n => [q_1, (q_2 0), (q_2 1), q_5, q_7, q_9, q_11].getD n 0), (fun n => [(kk_3 0), (kk_3 1), k_6, k_8, k_10, k_12].getD n (kk_3 0)), by rw [ht]; exact hP9, va_K.moved hW.alike hK9, hD9⟩, hS.F ht⟩) hS.2.2 (dk_at dkX1_init 29 rfl)
