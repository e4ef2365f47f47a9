abbrev MW (hm : Nat) (mi : Nat → Int32) (mr : Nat → Nat) (km : Nat → ClassId) (fm : Nat → Nat → Int32) : va_W := (MWn hm mr km (mi 0) (mi 1) (mi 2) (mi 3) (mi 4) (mi 5) (mi 6) (mi 7) (mi 10) (mi 17) (mi 23) (mi 24) (mi 26) (mi 27) (mi 28) (mi 29) (mi 30) (mi 31) (mi 32) (mi 33) (mi 37) (mi 41) (mi 42) (mi 43) (mi 44) (mi 45) (mi 47) (mi 48) (mi 49) (mi 50) (mi 51) (mi 54) (mi 56) (fm 0) (fm 1) (fm 2) (fm 3) (fm 4) (fm 5) (fm 6) (fm 7) (fm 8) (fm 9) (fm 10) (fm 11) (fm 12) (fm 13) (fm 14) (fm 15) (fm 16) (fm 17) (fm 18) (fm 19) (fm 20) (fm 21) (fm 22) (fm 23))
def MI (mi : Nat → Int32) (fm : Nat → Nat → Int32) : Prop := gi (mi 0) 0 24 ∧ gi (mi 1) 0 5 ∧ gi (mi 2) 0 5 ∧ gi (mi 4) 0 1 ∧ gi (mi 7) 0 6 ∧ gi (mi 10) 0 24 ∧ gi (mi 17) 0 8 ∧ gi (mi 23) 0 300 ∧ gi (mi 24) 0 1 ∧ gi (mi 26) 0 1600 ∧ gi (mi 29) 0 1600 ∧ gi (mi 30) 0 1600 ∧ gi (mi 32) 0 100000 ∧ gi (mi 33) 0 1 ∧ gi (mi 37) 0 1 ∧ gi (mi 41) 0 24 ∧ gi (mi 50) 0 1 ∧ gi (mi 51) 0 1 ∧ gi (mi 56) 0 80 ∧ ga (fm 2) 24 0 5 ∧ ga (fm 4) 24 0 1 ∧ ga (fm 5) 24 0 23 ∧ ga (fm 6) 24 0 999 ∧ ga (fm 7) 24 0 999 ∧ ga (fm 8) 8 0 23 ∧ ga (fm 10) 8 0 600 ∧ ga (fm 19) 24 0 23 ∧ (∀ j : Nat, j < 8 → ((fm 11 j).toInt ≠ 0 ∨ (fm 8 j).toInt + (fm 10 j).toInt ≤ 23)) ∧ ((mi 3).toInt = 0 ∨ (2 ≤ (mi 0).toInt ∧ (mi 0).toInt ≤ 24 ∧ 1 ≤ (mi 1).toInt ∧ (mi 1).toInt ≤ 5 ∧ 1 ≤ (mi 2).toInt ∧ (mi 2).toInt ≤ 5))
def MB (dC : Nat → ClassId) (dI : Nat → Nat → Nat) (hm : Nat) (mi : Nat → Int32) (mr : Nat → Nat) (km : Nat → ClassId) (fm : Nat → Nat → Int32) (sz : Nat) (rel : (Nat → Int32) → (Nat → Nat → Int32) → Prop) (t : State) : Prop := ∃ (mi2 : Nat → Int32) (fm2 : Nat → Nat → Int32), MI mi2 fm2 ∧ rel mi2 fm2 ∧ va_P (dC, dI) vwCl (MW hm mi2 mr km fm2) t.heap ∧ va_D (va_A (MW hm mi mr km fm) sz) (MW hm mi2 mr km fm2)
noncomputable def mt_feed (mi : Nat → Int32) (fm : Nat → Nat → Int32) (o : Int32 × Int32 × (Nat → Int32)) : Int32 × (Nat → Int32) × (Nat → Nat → Int32) := (o.1, (upd mi 26 o.2.1), (updF fm 13 o.2.2))
noncomputable def ms_feed (mi : Nat → Int32) (fm : Nat → Nat → Int32) (p1 : Int32) (p2 : Int32) (p3 : Int32) (p4 : Int32) (p5 : Int32) : Int32 × (Nat → Int32) × (Nat → Nat → Int32) := mt_feed mi fm (fX12_feed mi (fm 13) p1 p2 p3 p4 p5)
set_option maxHeartbeats 4000000 in
set_option maxRecDepth 100000 in
theorem uX12_feed (l : Launch) (dC : Nat → ClassId) (dI : Nat → Nat → Nat) (sz : Nat) (hm : Nat) (mi : Nat → Int32) (mr : Nat → Nat) (km : Nat → ClassId) (fm : Nat → Nat → Int32) (hI : MI mi fm) (p1 : Int32) (p2 : Int32) (p3 : Int32) (p4 : Int32) (p5 : Int32) : Met l yX12_feed (.code yX12_feed cX12_feed 8 (some .int) :: wsGB) ({ frames := 0, cells := 1, slots := 5, locals := 0 }) (va_Pc [.ref hm, .int p1, .int p2, .int p3, .int p4, .int p5] (fun U => U.heap.size = sz ∧ va_P (dC, dI) vwCl (MW hm mi mr km fm) U.heap ∧ va_K (dC, dI) vwCl (MT km) U ∧ va_D (fun _ => True) (MW hm mi mr km fm))) (va_Qi (fun (r : Int32) (u : Int32) => r = u) (fun r t => MB dC dI hm mi mr km fm sz (fun v f => (r, v, f) = ms_feed mi fm p1 p2 p3 p4 p5) t) (va_A (MW hm mi mr km fm) sz)) 1 5 (va_A (MW hm mi mr km fm) sz) := by
  refine gz_mono (sX12_feed l dC dI sz hm mi mr km (fm 13) (fm 0) (fm 1) (fm 2) (fm 3) (fm 4) (fm 5) (fm 6) (fm 7) (fm 8) (fm 9) (fm 10) (fm 11) (fm 12) (fm 14) (fm 15) (fm 16) (fm 17) (fm 18) (fm 19) (fm 20) (fm 21) (fm 22) (fm 23) p1 p2 p3 p4 p5 hI.1 hI.2.1 hI.2.2.1 hI.2.2.2.1 hI.2.2.2.2.1 hI.2.2.2.2.2.1 hI.2.2.2.2.2.2.1 hI.2.2.2.2.2.2.2.1 hI.2.2.2.2.2.2.2.2.1 hI.2.2.2.2.2.2.2.2.2.1 hI.2.2.2.2.2.2.2.2.2.2.1 hI.2.2.2.2.2.2.2.2.2.2.2.1 hI.2.2.2.2.2.2.2.2.2.2.2.2.2.1 hI.2.2.2.2.2.2.2.2.2.2.2.2.2.2.1 hI.2.2.2.2.2.2.2.2.2.2.2.2.2.2.2.1 hI.2.2.2.2.2.2.2.2.2.2.2.2.2.2.2.2.1 hI.2.2.2.2.2.2.2.2.2.2.2.2.2.2.2.2.2.1 hI.2.2.2.2.2.2.2.2.2.2.2.2.2.2.2.2.2.2.1) ?_ ?_ ?_
  · rintro args s ⟨rfl, hsz, hP, hK, hD⟩
    exact ⟨rfl, hsz, hP, hK, hD⟩
  · rintro args s o t ⟨rfl, hsz, hP, hK, hD⟩ ⟨⟨r, u, ho, hw, hB⟩, hF⟩
    obtain ⟨w0_26, z1, hB⟩ := hB
    obtain ⟨gw0_26, hpr0, hE, hP1, hD1⟩ := hB
    obtain ⟨hu9, hw⟩ := hw
    subst hu9
    subst hsz
    exact ⟨⟨r, r, ho, rfl, (upd mi 26 w0_26), (updF fm 13 z1), ⟨hI.1, hI.2.1, hI.2.2.1, hI.2.2.2.1, hI.2.2.2.2.1, hI.2.2.2.2.2.1, hI.2.2.2.2.2.2.1, hI.2.2.2.2.2.2.2.1, hI.2.2.2.2.2.2.2.2.1, gw0_26, hI.2.2.2.2.2.2.2.2.2.2.1, hI.2.2.2.2.2.2.2.2.2.2.2.1, hI.2.2.2.2.2.2.2.2.2.2.2.2.1, hI.2.2.2.2.2.2.2.2.2.2.2.2.2.1, hI.2.2.2.2.2.2.2.2.2.2.2.2.2.2.1, hI.2.2.2.2.2.2.2.2.2.2.2.2.2.2.2.1, hI.2.2.2.2.2.2.2.2.2.2.2.2.2.2.2.2.1, hI.2.2.2.2.2.2.2.2.2.2.2.2.2.2.2.2.2.1, hI.2.2.2.2.2.2.2.2.2.2.2.2.2.2.2.2.2.2.1, hI.2.2.2.2.2.2.2.2.2.2.2.2.2.2.2.2.2.2.2.1, hI.2.2.2.2.2.2.2.2.2.2.2.2.2.2.2.2.2.2.2.2.1, hI.2.2.2.2.2.2.2.2.2.2.2.2.2.2.2.2.2.2.2.2.2.1, hI.2.2.2.2.2.2.2.2.2.2.2.2.2.2.2.2.2.2.2.2.2.2.1, hI.2.2.2.2.2.2.2.2.2.2.2.2.2.2.2.2.2.2.2.2.2.2.2.1, hI.2.2.2.2.2.2.2.2.2.2.2.2.2.2.2.2.2.2.2.2.2.2.2.2.1, hI.2.2.2.2.2.2.2.2.2.2.2.2.2.2.2.2.2.2.2.2.2.2.2.2.2.1, hI.2.2.2.2.2.2.2.2.2.2.2.2.2.2.2.2.2.2.2.2.2.2.2.2.2.2.1, hI.2.2.2.2.2.2.2.2.2.2.2.2.2.2.2.2.2.2.2.2.2.2.2.2.2.2.2.1, hI.2.2.2.2.2.2.2.2.2.2.2.2.2.2.2.2.2.2.2.2.2.2.2.2.2.2.2.2⟩, congrArg (mt_feed mi fm) hE, hP1, hD1⟩, hF⟩
  · exact fun q h => h
noncomputable def mt_end (mi : Nat → Int32) (fm : Nat → Nat → Int32) (o : Int32 × Int32) : Int32 × (Nat → Int32) × (Nat → Nat → Int32) := (o.1, (upd mi 26 o.2), fm)
noncomputable def ms_end (mi : Nat → Int32) (fm : Nat → Nat → Int32) (p1 : Int32) : Int32 × (Nat → Int32) × (Nat → Nat → Int32) := mt_end mi fm (fX12_end mi p1)
set_option maxHeartbeats 4000000 in
set_option maxRecDepth 100000 in
theorem uX12_end (l : Launch) (dC : Nat → ClassId) (dI : Nat → Nat → Nat) (sz : Nat) (hm : Nat) (mi : Nat → Int32) (mr : Nat → Nat) (km : Nat → ClassId) (fm : Nat → Nat → Int32) (hI : MI mi fm) (p1 : Int32) : Met l yX12_end (.code yX12_end cX12_end 2 (some .int) :: wsGB) ({ frames := 1, cells := 0, slots := 0, locals := 25 }) (va_Pc [.ref hm, .int p1] (fun U => U.heap.size = sz ∧ va_P (dC, dI) vwCl (MW hm mi mr km fm) U.heap ∧ va_K (dC, dI) vwCl (MT km) U ∧ va_D (fun _ => True) (MW hm mi mr km fm))) (va_Qi (fun (r : Int32) (u : Int32) => r = u) (fun r t => MB dC dI hm mi mr km fm sz (fun v f => (r, v, f) = ms_end mi fm p1) t) (va_A (MW hm mi mr km fm) sz)) 0 0 (va_A (MW hm mi mr km fm) sz) := by
  refine gz_mono (sX12_end l dC dI sz hm mi mr km (fm 0) (fm 1) (fm 2) (fm 3) (fm 4) (fm 5) (fm 6) (fm 7) (fm 8) (fm 9) (fm 10) (fm 11) (fm 12) (fm 13) (fm 14) (fm 15) (fm 16) (fm 17) (fm 18) (fm 19) (fm 20) (fm 21) (fm 22) (fm 23) p1 hI.1 hI.2.1 hI.2.2.1 hI.2.2.2.1 hI.2.2.2.2.1 hI.2.2.2.2.2.1 hI.2.2.2.2.2.2.1 hI.2.2.2.2.2.2.2.1 hI.2.2.2.2.2.2.2.2.1 hI.2.2.2.2.2.2.2.2.2.1 hI.2.2.2.2.2.2.2.2.2.2.1 hI.2.2.2.2.2.2.2.2.2.2.2.1 hI.2.2.2.2.2.2.2.2.2.2.2.2.2.1 hI.2.2.2.2.2.2.2.2.2.2.2.2.2.2.1 hI.2.2.2.2.2.2.2.2.2.2.2.2.2.2.2.1 hI.2.2.2.2.2.2.2.2.2.2.2.2.2.2.2.2.1 hI.2.2.2.2.2.2.2.2.2.2.2.2.2.2.2.2.2.1 hI.2.2.2.2.2.2.2.2.2.2.2.2.2.2.2.2.2.2.1) ?_ ?_ ?_
  · rintro args s ⟨rfl, hsz, hP, hK, hD⟩
    exact ⟨rfl, hsz, hP, hK, hD⟩
  · rintro args s o t ⟨rfl, hsz, hP, hK, hD⟩ ⟨⟨r, u, ho, hw, hB⟩, hF⟩
    obtain ⟨w0_26, hB⟩ := hB
    obtain ⟨gw0_26, hpr0, hE, hP1, hD1⟩ := hB
    obtain ⟨hu9, hw⟩ := hw
    subst hu9
    subst hsz
    exact ⟨⟨r, r, ho, rfl, (upd mi 26 w0_26), fm, ⟨hI.1, hI.2.1, hI.2.2.1, hI.2.2.2.1, hI.2.2.2.2.1, hI.2.2.2.2.2.1, hI.2.2.2.2.2.2.1, hI.2.2.2.2.2.2.2.1, hI.2.2.2.2.2.2.2.2.1, gw0_26, hI.2.2.2.2.2.2.2.2.2.2.1, hI.2.2.2.2.2.2.2.2.2.2.2.1, hI.2.2.2.2.2.2.2.2.2.2.2.2.1, hI.2.2.2.2.2.2.2.2.2.2.2.2.2.1, hI.2.2.2.2.2.2.2.2.2.2.2.2.2.2.1, hI.2.2.2.2.2.2.2.2.2.2.2.2.2.2.2.1, hI.2.2.2.2.2.2.2.2.2.2.2.2.2.2.2.2.1, hI.2.2.2.2.2.2.2.2.2.2.2.2.2.2.2.2.2.1, hI.2.2.2.2.2.2.2.2.2.2.2.2.2.2.2.2.2.2.1, hI.2.2.2.2.2.2.2.2.2.2.2.2.2.2.2.2.2.2.2.1, hI.2.2.2.2.2.2.2.2.2.2.2.2.2.2.2.2.2.2.2.2.1, hI.2.2.2.2.2.2.2.2.2.2.2.2.2.2.2.2.2.2.2.2.2.1, hI.2.2.2.2.2.2.2.2.2.2.2.2.2.2.2.2.2.2.2.2.2.2.1, hI.2.2.2.2.2.2.2.2.2.2.2.2.2.2.2.2.2.2.2.2.2.2.2.1, hI.2.2.2.2.2.2.2.2.2.2.2.2.2.2.2.2.2.2.2.2.2.2.2.2.1, hI.2.2.2.2.2.2.2.2.2.2.2.2.2.2.2.2.2.2.2.2.2.2.2.2.2.1, hI.2.2.2.2.2.2.2.2.2.2.2.2.2.2.2.2.2.2.2.2.2.2.2.2.2.2.1, hI.2.2.2.2.2.2.2.2.2.2.2.2.2.2.2.2.2.2.2.2.2.2.2.2.2.2.2.1, hI.2.2.2.2.2.2.2.2.2.2.2.2.2.2.2.2.2.2.2.2.2.2.2.2.2.2.2.2⟩, congrArg (mt_end mi fm) hE, hP1, hD1⟩, hF⟩
  · exact fun q h => h
noncomputable def mt_almanac (mi : Nat → Int32) (fm : Nat → Nat → Int32) (o : Int32 × Int32 × Int32 × Int32 × Int32 × Int32 × Int32 × Int32 × Int32 × Int32 × Int32 × Int32 × Int32 × Int32 × Int32 × Int32 × Int32 × Int32 × Int32 × Int32 × Int32 × (Nat → Int32) × (Nat → Int32) × (Nat → Int32) × (Nat → Int32) × (Nat → Int32) × (Nat → Int32) × (Nat → Int32) × (Nat → Int32) × (Nat → Int32) × (Nat → Int32) × (Nat → Int32) × (Nat → Int32) × (Nat → Int32)) : Int32 × (Nat → Int32) × (Nat → Nat → Int32) := (o.1, (upd (upd (upd (upd (upd (upd (upd (upd (upd (upd (upd (upd (upd (upd (upd (upd (upd (upd (upd (upd mi 0 o.2.1) 1 o.2.2.1) 2 o.2.2.2.1) 3 o.2.2.2.2.1) 4 o.2.2.2.2.2.1) 5 o.2.2.2.2.2.2.1) 6 o.2.2.2.2.2.2.2.1) 7 o.2.2.2.2.2.2.2.2.1) 10 o.2.2.2.2.2.2.2.2.2.1) 17 o.2.2.2.2.2.2.2.2.2.2.1) 23 o.2.2.2.2.2.2.2.2.2.2.2.1) 24 o.2.2.2.2.2.2.2.2.2.2.2.2.1) 26 o.2.2.2.2.2.2.2.2.2.2.2.2.2.1) 27 o.2.2.2.2.2.2.2.2.2.2.2.2.2.2.1) 28 o.2.2.2.2.2.2.2.2.2.2.2.2.2.2.2.1) 29 o.2.2.2.2.2.2.2.2.2.2.2.2.2.2.2.2.1) 30 o.2.2.2.2.2.2.2.2.2.2.2.2.2.2.2.2.2.1) 31 o.2.2.2.2.2.2.2.2.2.2.2.2.2.2.2.2.2.2.1) 32 o.2.2.2.2.2.2.2.2.2.2.2.2.2.2.2.2.2.2.2.1) 33 o.2.2.2.2.2.2.2.2.2.2.2.2.2.2.2.2.2.2.2.2.1), (updF (updF (updF (updF (updF (updF (updF (updF (updF (updF (updF (updF (updF fm 12 o.2.2.2.2.2.2.2.2.2.2.2.2.2.2.2.2.2.2.2.2.2.1) 0 o.2.2.2.2.2.2.2.2.2.2.2.2.2.2.2.2.2.2.2.2.2.2.1) 1 o.2.2.2.2.2.2.2.2.2.2.2.2.2.2.2.2.2.2.2.2.2.2.2.1) 2 o.2.2.2.2.2.2.2.2.2.2.2.2.2.2.2.2.2.2.2.2.2.2.2.2.1) 3 o.2.2.2.2.2.2.2.2.2.2.2.2.2.2.2.2.2.2.2.2.2.2.2.2.2.1) 5 o.2.2.2.2.2.2.2.2.2.2.2.2.2.2.2.2.2.2.2.2.2.2.2.2.2.2.1) 6 o.2.2.2.2.2.2.2.2.2.2.2.2.2.2.2.2.2.2.2.2.2.2.2.2.2.2.2.1) 7 o.2.2.2.2.2.2.2.2.2.2.2.2.2.2.2.2.2.2.2.2.2.2.2.2.2.2.2.2.1) 8 o.2.2.2.2.2.2.2.2.2.2.2.2.2.2.2.2.2.2.2.2.2.2.2.2.2.2.2.2.2.1) 9 o.2.2.2.2.2.2.2.2.2.2.2.2.2.2.2.2.2.2.2.2.2.2.2.2.2.2.2.2.2.2.1) 10 o.2.2.2.2.2.2.2.2.2.2.2.2.2.2.2.2.2.2.2.2.2.2.2.2.2.2.2.2.2.2.2.1) 11 o.2.2.2.2.2.2.2.2.2.2.2.2.2.2.2.2.2.2.2.2.2.2.2.2.2.2.2.2.2.2.2.2.1) 4 o.2.2.2.2.2.2.2.2.2.2.2.2.2.2.2.2.2.2.2.2.2.2.2.2.2.2.2.2.2.2.2.2.2))
noncomputable def ms_almanac (mi : Nat → Int32) (fm : Nat → Nat → Int32) : Int32 × (Nat → Int32) × (Nat → Nat → Int32) := mt_almanac mi fm (fX12_almanac mi (fm 13) (fm 12) (fm 0) (fm 1) (fm 2) (fm 3) (fm 5) (fm 6) (fm 7) (fm 8) (fm 9) (fm 10) (fm 11) (fm 4))
set_option maxHeartbeats 4000000 in
set_option maxRecDepth 100000 in
theorem uX12_almanac (l : Launch) (dC : Nat → ClassId) (dI : Nat → Nat → Nat) (sz : Nat) (hm : Nat) (mi : Nat → Int32) (mr : Nat → Nat) (km : Nat → ClassId) (fm : Nat → Nat → Int32) (sa sb : Nat → Nat) (zf : Value) (hI : MI mi fm) : Met l yX12_almanac (.code yX12_almanac cX12_almanac 1 (some .int) :: wsGB) ({ frames := 9, cells := 0, slots := 0, locals := 197 }) (va_Pc [.ref hm] (fun U => U.heap.size = sz ∧ va_P (dC, dI) vwCl (MW hm mi mr km fm) U.heap ∧ va_K (dC, dI) vwCl (MT km) U ∧ va_D (fun _ => True) (MW hm mi mr km fm) ∧ gz_ST RX12 stIB sa sb zf (va_A (MW hm mi mr km fm) sz) U U.heap)) (va_Qi (fun (r : Int32) (u : Int32) => r = u) (fun r t => MB dC dI hm mi mr km fm sz (fun v f => (r, v, f) = ms_almanac mi fm) t) (va_A (MW hm mi mr km fm) sz)) 0 0 (va_A (MW hm mi mr km fm) sz) := by
  refine gz_mono (sX12_almanacP l dC dI sz hm mi mr km (fm 13) (fm 12) (fm 0) (fm 1) (fm 2) (fm 3) (fm 5) (fm 6) (fm 7) (fm 8) (fm 9) (fm 10) (fm 11) (fm 4) (fm 14) (fm 15) (fm 16) (fm 17) (fm 18) (fm 19) (fm 20) (fm 21) (fm 22) (fm 23) sa sb zf (gi_w hI.1 (by decide)) (gi_w hI.2.1 (by decide)) (gi_w hI.2.2.1 (by decide)) hI.2.2.2.1 hI.2.2.2.2.1 hI.2.2.2.2.2.1 hI.2.2.2.2.2.2.1 hI.2.2.2.2.2.2.2.1 hI.2.2.2.2.2.2.2.2.1 hI.2.2.2.2.2.2.2.2.2.1 hI.2.2.2.2.2.2.2.2.2.2.1 hI.2.2.2.2.2.2.2.2.2.2.2.1 hI.2.2.2.2.2.2.2.2.2.2.2.2.1 hI.2.2.2.2.2.2.2.2.2.2.2.2.2.1 hI.2.2.2.2.2.2.2.2.2.2.2.2.2.2.1 hI.2.2.2.2.2.2.2.2.2.2.2.2.2.2.2.1 hI.2.2.2.2.2.2.2.2.2.2.2.2.2.2.2.2.1 hI.2.2.2.2.2.2.2.2.2.2.2.2.2.2.2.2.2.1 hI.2.2.2.2.2.2.2.2.2.2.2.2.2.2.2.2.2.2.1 hI.2.2.2.2.2.2.2.2.2.2.2.2.2.2.2.2.2.2.2.1 hI.2.2.2.2.2.2.2.2.2.2.2.2.2.2.2.2.2.2.2.2.2.1 hI.2.2.2.2.2.2.2.2.2.2.2.2.2.2.2.2.2.2.2.2.2.2.1 hI.2.2.2.2.2.2.2.2.2.2.2.2.2.2.2.2.2.2.2.2.2.2.2.1 hI.2.2.2.2.2.2.2.2.2.2.2.2.2.2.2.2.2.2.2.2.2.2.2.2.1 hI.2.2.2.2.2.2.2.2.2.2.2.2.2.2.2.2.2.2.2.2.2.2.2.2.2.1 hI.2.2.2.2.2.2.2.2.2.2.2.2.2.2.2.2.2.2.2.2.1 hI.2.2.2.2.2.2.2.2.2.2.2.2.2.2.2.2.2.2.2.2.2.2.2.2.2.2.2.1 (hI.1).2 (hI.2.1).2 (hI.2.2.1).2 hI.2.2.2.2.2.2.2.2.2.2.2.2.2.2.2.2.2.2.2.2.2.2.2.2.2.2.2.2) ?_ ?_ ?_
  · rintro args s ⟨rfl, hsz, hP, hK, hD, hT⟩
    exact ⟨rfl, hsz, hP, hK, hD, hT⟩
  · rintro args s o t ⟨rfl, hsz, hP, hK, hD, hT⟩ ⟨⟨r, u, ho, hw, hB⟩, hF⟩
    obtain ⟨w0_0, w0_1, w0_2, w0_3, w0_4, w0_5, w0_6, w0_7, w0_10, w0_17, w0_23, w0_24, w0_26, w0_27, w0_28, w0_29, w0_30, w0_31, w0_32, w0_33, z2, z3, z4, z5, z6, z7, z8, z9, z10, z11, z12, z13, z14, hB⟩ := hB
    obtain ⟨gw0_0, gw0_1, gw0_2, gw0_4, gw0_7, gw0_10, gw0_17, gw0_23, gw0_24, gw0_26, gw0_29, gw0_30, gw0_32, gw0_33, gz5, gz7, gz8, gz9, gz10, gz12, gz14, hpr0, hpr1, hpr2, hpr3, hpr4, hpr5, hE, hP1, hD1⟩ := hB
    obtain ⟨hu9, hw⟩ := hw
    subst hu9
    subst hsz
    exact ⟨⟨r, r, ho, rfl, (upd (upd (upd (upd (upd (upd (upd (upd (upd (upd (upd (upd (upd (upd (upd (upd (upd (upd (upd (upd mi 0 w0_0) 1 w0_1) 2 w0_2) 3 w0_3) 4 w0_4) 5 w0_5) 6 w0_6) 7 w0_7) 10 w0_10) 17 w0_17) 23 w0_23) 24 w0_24) 26 w0_26) 27 w0_27) 28 w0_28) 29 w0_29) 30 w0_30) 31 w0_31) 32 w0_32) 33 w0_33), (updF (updF (updF (updF (updF (updF (updF (updF (updF (updF (updF (updF (updF fm 12 z2) 0 z3) 1 z4) 2 z5) 3 z6) 5 z7) 6 z8) 7 z9) 8 z10) 9 z11) 10 z12) 11 z13) 4 z14), ⟨⟨gw0_0.1, hpr1⟩, ⟨gw0_1.1, hpr2⟩, ⟨gw0_2.1, hpr3⟩, gw0_4, gw0_7, gw0_10, gw0_17, gw0_23, gw0_24, gw0_26, gw0_29, gw0_30, gw0_32, gw0_33, hI.2.2.2.2.2.2.2.2.2.2.2.2.2.2.1, hI.2.2.2.2.2.2.2.2.2.2.2.2.2.2.2.1, hI.2.2.2.2.2.2.2.2.2.2.2.2.2.2.2.2.1, hI.2.2.2.2.2.2.2.2.2.2.2.2.2.2.2.2.2.1, hI.2.2.2.2.2.2.2.2.2.2.2.2.2.2.2.2.2.2.1, gz5, gz14, gz7, gz8, gz9, gz10, gz12, hI.2.2.2.2.2.2.2.2.2.2.2.2.2.2.2.2.2.2.2.2.2.2.2.2.2.2.1, hpr5, hpr4⟩, congrArg (mt_almanac mi fm) hE, hP1, hD1⟩, hF⟩
  · exact fun q h => h
noncomputable def mt_fault (mi : Nat → Int32) (fm : Nat → Nat → Int32) (o : Int32) : Int32 × (Nat → Int32) × (Nat → Nat → Int32) := (o, mi, fm)
noncomputable def ms_fault (mi : Nat → Int32) (fm : Nat → Nat → Int32) (p1 : Int32) : Int32 × (Nat → Int32) × (Nat → Nat → Int32) := mt_fault mi fm (fX12_fault mi p1)
set_option maxHeartbeats 4000000 in
set_option maxRecDepth 100000 in
theorem uX12_fault (l : Launch) (dC : Nat → ClassId) (dI : Nat → Nat → Nat) (sz : Nat) (hm : Nat) (mi : Nat → Int32) (mr : Nat → Nat) (km : Nat → ClassId) (fm : Nat → Nat → Int32) (hI : MI mi fm) (p1 : Int32) : Met l yX12_fault (.code yX12_fault cX12_fault 2 (some .int) :: wsGB) ({ frames := 0, cells := 0, slots := 0, locals := 0 }) (va_Pc [.ref hm, .int p1] (fun U => U.heap.size = sz ∧ va_P (dC, dI) vwCl (MW hm mi mr km fm) U.heap ∧ va_K (dC, dI) vwCl (MT km) U ∧ va_D (fun _ => True) (MW hm mi mr km fm))) (va_Qi (fun (r : Int32) (u : Int32) => r = u) (fun r t => MB dC dI hm mi mr km fm sz (fun v f => (r, v, f) = ms_fault mi fm p1) t) (va_A (MW hm mi mr km fm) sz)) 0 0 (va_A (MW hm mi mr km fm) sz) := by
  refine gz_mono (sX12_fault l dC dI hm mi mr km (fm 0) (fm 1) (fm 2) (fm 3) (fm 4) (fm 5) (fm 6) (fm 7) (fm 8) (fm 9) (fm 10) (fm 11) (fm 12) (fm 13) (fm 14) (fm 15) (fm 16) (fm 17) (fm 18) (fm 19) (fm 20) (fm 21) (fm 22) (fm 23) p1 hI.1 hI.2.1 hI.2.2.1 hI.2.2.2.1 hI.2.2.2.2.1 hI.2.2.2.2.2.1 hI.2.2.2.2.2.2.1 hI.2.2.2.2.2.2.2.1 hI.2.2.2.2.2.2.2.2.1 hI.2.2.2.2.2.2.2.2.2.1 hI.2.2.2.2.2.2.2.2.2.2.1 hI.2.2.2.2.2.2.2.2.2.2.2.1 hI.2.2.2.2.2.2.2.2.2.2.2.2.2.1 hI.2.2.2.2.2.2.2.2.2.2.2.2.2.2.1 hI.2.2.2.2.2.2.2.2.2.2.2.2.2.2.2.1 hI.2.2.2.2.2.2.2.2.2.2.2.2.2.2.2.2.1 hI.2.2.2.2.2.2.2.2.2.2.2.2.2.2.2.2.2.1 hI.2.2.2.2.2.2.2.2.2.2.2.2.2.2.2.2.2.2.1) ?_ ?_ ?_
  · rintro args s ⟨rfl, hsz, hP, hK, hD⟩
    exact ⟨rfl, hP, hK⟩
  · rintro args s o t ⟨rfl, hsz, hP, hK, hD⟩ ⟨⟨r, u, ho, hw, hB⟩, hF⟩
    subst hsz
    exact ⟨⟨r, r, ho, rfl, mi, fm, hI, congrArg (mt_fault mi fm) hw.2, gz_keep hP hF.2, hD.self⟩, hF.1, fun q h1 h2 => hF.2 q h1 (fun h => h.elim)⟩
  · exact fun q h => h.elim
noncomputable def mt_count (mi : Nat → Int32) (fm : Nat → Nat → Int32) (o : Int32) : Int32 × (Nat → Int32) × (Nat → Nat → Int32) := (o, mi, fm)
noncomputable def ms_count (mi : Nat → Int32) (fm : Nat → Nat → Int32) (p1 : Int32) : Int32 × (Nat → Int32) × (Nat → Nat → Int32) := mt_count mi fm (fX12_count mi p1)
set_option maxHeartbeats 4000000 in
set_option maxRecDepth 100000 in
theorem uX12_count (l : Launch) (dC : Nat → ClassId) (dI : Nat → Nat → Nat) (sz : Nat) (hm : Nat) (mi : Nat → Int32) (mr : Nat → Nat) (km : Nat → ClassId) (fm : Nat → Nat → Int32) (hI : MI mi fm) (p1 : Int32) : Met l yX12_count (.code yX12_count cX12_count 2 (some .int) :: wsGB) ({ frames := 0, cells := 0, slots := 0, locals := 0 }) (va_Pc [.ref hm, .int p1] (fun U => U.heap.size = sz ∧ va_P (dC, dI) vwCl (MW hm mi mr km fm) U.heap ∧ va_K (dC, dI) vwCl (MT km) U ∧ va_D (fun _ => True) (MW hm mi mr km fm))) (va_Qi (fun (r : Int32) (u : Int32) => r = u) (fun r t => MB dC dI hm mi mr km fm sz (fun v f => (r, v, f) = ms_count mi fm p1) t) (va_A (MW hm mi mr km fm) sz)) 0 0 (va_A (MW hm mi mr km fm) sz) := by
  refine gz_mono (sX12_count l dC dI hm mi mr km (fm 0) (fm 1) (fm 2) (fm 3) (fm 4) (fm 5) (fm 6) (fm 7) (fm 8) (fm 9) (fm 10) (fm 11) (fm 12) (fm 13) (fm 14) (fm 15) (fm 16) (fm 17) (fm 18) (fm 19) (fm 20) (fm 21) (fm 22) (fm 23) p1 hI.1 hI.2.1 hI.2.2.1 hI.2.2.2.1 hI.2.2.2.2.1 hI.2.2.2.2.2.1 hI.2.2.2.2.2.2.1 hI.2.2.2.2.2.2.2.1 hI.2.2.2.2.2.2.2.2.1 hI.2.2.2.2.2.2.2.2.2.1 hI.2.2.2.2.2.2.2.2.2.2.1 hI.2.2.2.2.2.2.2.2.2.2.2.1 hI.2.2.2.2.2.2.2.2.2.2.2.2.2.1 hI.2.2.2.2.2.2.2.2.2.2.2.2.2.2.1 hI.2.2.2.2.2.2.2.2.2.2.2.2.2.2.2.1 hI.2.2.2.2.2.2.2.2.2.2.2.2.2.2.2.2.1 hI.2.2.2.2.2.2.2.2.2.2.2.2.2.2.2.2.2.1 hI.2.2.2.2.2.2.2.2.2.2.2.2.2.2.2.2.2.2.1) ?_ ?_ ?_
  · rintro args s ⟨rfl, hsz, hP, hK, hD⟩
    exact ⟨rfl, hP, hK⟩
  · rintro args s o t ⟨rfl, hsz, hP, hK, hD⟩ ⟨⟨r, u, ho, hw, hB⟩, hF⟩
    subst hsz
    exact ⟨⟨r, r, ho, rfl, mi, fm, hI, congrArg (mt_count mi fm) hw.2, gz_keep hP hF.2, hD.self⟩, hF.1, fun q h1 h2 => hF.2 q h1 (fun h => h.elim)⟩
  · exact fun q h => h.elim
noncomputable def mt_place (mi : Nat → Int32) (fm : Nat → Nat → Int32) (o : Int32) : Int32 × (Nat → Int32) × (Nat → Nat → Int32) := (o, mi, fm)
noncomputable def ms_place (mi : Nat → Int32) (fm : Nat → Nat → Int32) (p1 : Int32) (p2 : Int32) : Int32 × (Nat → Int32) × (Nat → Nat → Int32) := mt_place mi fm (fX12_place mi (fm 0) (fm 1) (fm 2) (fm 4) p1 p2)
set_option maxHeartbeats 4000000 in
set_option maxRecDepth 100000 in
theorem uX12_place (l : Launch) (dC : Nat → ClassId) (dI : Nat → Nat → Nat) (sz : Nat) (hm : Nat) (mi : Nat → Int32) (mr : Nat → Nat) (km : Nat → ClassId) (fm : Nat → Nat → Int32) (hI : MI mi fm) (p1 : Int32) (p2 : Int32) : Met l yX12_place (.code yX12_place cX12_place 6 (some .int) :: wsGB) ({ frames := 2, cells := 0, slots := 0, locals := 46 }) (va_Pc [.ref hm, .int p1, .int p2] (fun U => U.heap.size = sz ∧ va_P (dC, dI) vwCl (MW hm mi mr km fm) U.heap ∧ va_K (dC, dI) vwCl (MT km) U ∧ va_D (fun _ => True) (MW hm mi mr km fm))) (va_Qi (fun (r : Int32) (u : Int32) => r = u) (fun r t => MB dC dI hm mi mr km fm sz (fun v f => (r, v, f) = ms_place mi fm p1 p2) t) (va_A (MW hm mi mr km fm) sz)) 0 0 (va_A (MW hm mi mr km fm) sz) := by
  refine gz_mono (sX12_place l dC dI hm mi mr km (fm 0) (fm 1) (fm 2) (fm 4) (fm 3) (fm 5) (fm 6) (fm 7) (fm 8) (fm 9) (fm 10) (fm 11) (fm 12) (fm 13) (fm 14) (fm 15) (fm 16) (fm 17) (fm 18) (fm 19) (fm 20) (fm 21) (fm 22) (fm 23) p1 p2 hI.1 hI.2.1 hI.2.2.1 hI.2.2.2.1 hI.2.2.2.2.1 hI.2.2.2.2.2.1 hI.2.2.2.2.2.2.1 hI.2.2.2.2.2.2.2.1 hI.2.2.2.2.2.2.2.2.1 hI.2.2.2.2.2.2.2.2.2.1 hI.2.2.2.2.2.2.2.2.2.2.1 hI.2.2.2.2.2.2.2.2.2.2.2.1 hI.2.2.2.2.2.2.2.2.2.2.2.2.2.1 hI.2.2.2.2.2.2.2.2.2.2.2.2.2.2.1 hI.2.2.2.2.2.2.2.2.2.2.2.2.2.2.2.1 hI.2.2.2.2.2.2.2.2.2.2.2.2.2.2.2.2.1 hI.2.2.2.2.2.2.2.2.2.2.2.2.2.2.2.2.2.1 hI.2.2.2.2.2.2.2.2.2.2.2.2.2.2.2.2.2.2.1 hI.2.2.2.2.2.2.2.2.2.2.2.2.2.2.2.2.2.2.2.1 hI.2.2.2.2.2.2.2.2.2.2.2.2.2.2.2.2.2.2.2.2.1) ?_ ?_ ?_
  · rintro args s ⟨rfl, hsz, hP, hK, hD⟩
    exact ⟨rfl, hP, hK⟩
  · rintro args s o t ⟨rfl, hsz, hP, hK, hD⟩ ⟨⟨r, u, ho, hw, hB⟩, hF⟩
    subst hsz
    exact ⟨⟨r, r, ho, rfl, mi, fm, hI, congrArg (mt_place mi fm) hw.2, gz_keep hP hF.2, hD.self⟩, hF.1, fun q h1 h2 => hF.2 q h1 (fun h => h.elim)⟩
  · exact fun q h => h.elim
theorem cal_b {α β : Type} (f : α → β) (a : α) : cal f a = f a := rfl
theorem pz_add1 {a : Int32} (h : a.toInt < 2147483647) : (a + (1 : Int32)).toInt = a.toInt + 1 := by
  have h1 : (1 : Int32).toInt = 1 := by decide
  have h2 := (gi_any a).1
  have h3 := gi_addI (z := a + (1 : Int32)) rfl (by rw [h1]; omega) (by rw [h1]; omega)
  rw [h1] at h3
  exact h3
def prun (P : Nat → Bool) : Nat → Nat → Nat
  | 0, p => p
  | k + 1, p => if P p = true then prun P k (p + 1) else p
theorem prun_le (P : Nat → Bool) : ∀ k p : Nat, p ≤ prun P k p ∧ prun P k p ≤ p + k := by
  intro k
  induction k with
  | zero => intro p; exact ⟨Nat.le_refl _, Nat.le_refl _⟩
  | succ k ih =>
    intro p
    unfold prun
    by_cases h : P p = true
    · rw [if_pos h]
      have h1 := ih (p + 1)
      omega
    · rw [if_neg h]
      omega
theorem prun_eq {P Q : Nat → Bool} : ∀ k p : Nat, (∀ j, p ≤ j → j < p + k → P j = Q j) → prun P k p = prun Q k p := by
  intro k
  induction k with
  | zero => intro p _; rfl
  | succ k ih =>
    intro p h
    unfold prun
    rw [h p (Nat.le_refl _) (by omega), ih (p + 1) (fun j h1 h2 => h j (by omega) (by omega))]
def cL (x : Int) : Bool := decide (97 ≤ x ∧ x ≤ 122)
def cD (x : Int) : Bool := decide (48 ≤ x ∧ x ≤ 57)
def cB (x : Int) : Bool := decide (x = 32 ∨ x = 10)
theorem px_isLetter (o : Int32) : fX6_isLetter o = if cL o.toInt = true then 1 else 0 := by
  have k1 : (97 : Int32).toInt = 97 := by decide
  have k2 : (122 : Int32).toInt = 122 := by decide
  unfold fX6_isLetter bfX6_isLetter_16 bfX6_isLetter_17 cL
  simp only [Int32.lt_iff_toInt_lt, k1, k2, decide_eq_true_eq]
  by_cases h1 : o.toInt < 97
  · rw [if_pos h1, if_neg (by omega)]
  · rw [if_neg h1]
    by_cases h2 : 122 < o.toInt
    · rw [if_pos h2, if_neg (by omega)]
    · rw [if_neg h2, if_pos (by omega)]
theorem px_isDigit (o : Int32) : fX6_isDigit o = if cD o.toInt = true then 1 else 0 := by
  have k1 : (48 : Int32).toInt = 48 := by decide
  have k2 : (57 : Int32).toInt = 57 := by decide
  unfold fX6_isDigit bfX6_isDigit_16 bfX6_isDigit_17 cD
  simp only [Int32.lt_iff_toInt_lt, k1, k2, decide_eq_true_eq]
  by_cases h1 : o.toInt < 48
  · rw [if_pos h1, if_neg (by omega)]
  · rw [if_neg h1]
    by_cases h2 : 57 < o.toInt
    · rw [if_pos h2, if_neg (by omega)]
    · rw [if_neg h2, if_pos (by omega)]
theorem px_isBlank (o : Int32) : fX6_isBlank o = if cB o.toInt = true then 1 else 0 := by
  have k1 : (32 : Int32).toInt = 32 := by decide
  have k2 : (10 : Int32).toInt = 10 := by decide
  unfold fX6_isBlank bfX6_isBlank_12 bfX6_isBlank_17 cB
  simp only [← Int32.toInt_inj, k1, k2, decide_eq_true_eq]
  by_cases h1 : o.toInt = 32
  · rw [if_pos h1, if_pos (by omega)]
  · rw [if_neg h1]
    by_cases h2 : o.toInt = 10
    · rw [if_pos h2, if_pos (by omega)]
    · rw [if_neg h2, if_neg (by omega)]
theorem px_byteAt {n e : Nat} (bt : Nat → Int32) (hn : n < 2147483648) (h : e < n) : fX6_byteAt (nI n) bt (nI e) = bt e := by
  unfold fX6_byteAt bfX6_byteAt_28
  rw [if_neg (nI_pos (by omega)), if_neg (nI_ge h (by omega)), nI_clamp (by omega)]
theorem px_byteEnd {n : Nat} (bt : Nat → Int32) (hn : n < 2147483648) : fX6_byteAt (nI n) bt (nI n) = -1 := by
  unfold fX6_byteAt bfX6_byteAt_27 bfX6_byteAt_28
  rw [if_neg (nI_pos (by omega)), if_pos (nI_le (Nat.le_refl n) (by omega))]
theorem px_step3 {fk tok st en : Int32} {bt : Nat → Int32} {n : Nat} (hn : n ≤ 1600) : ∀ (k e z : Nat) (t s : Int32), e + k = n → k < z → (lfX6_step fk tok st en (nI n) bt z).2.2 t s (nI e) = (t, s, nI (prun (fun j => cD (bt j).toInt) k e)) := by
  intro k
  induction k with
  | zero =>
    intro e z t s he hz
    obtain ⟨z, rfl⟩ : ∃ y, z = y + 1 := ⟨z - 1, by omega⟩
    show dfX6_step_161 fk tok st en (nI n) bt (lfX6_step fk tok st en (nI n) bt z) t s (nI e) = _
    unfold dfX6_step_161 bfX6_step_227
    rw [if_pos (nI_le (by omega) (by omega))]
    rfl
  | succ k ih =>
    intro e z t s he hz
    obtain ⟨z, rfl⟩ : ∃ y, z = y + 1 := ⟨z - 1, by omega⟩
    show dfX6_step_161 fk tok st en (nI n) bt (lfX6_step fk tok st en (nI n) bt z) t s (nI e) = _
    unfold dfX6_step_161 bfX6_step_227 cal
    dsimp only
    rw [if_neg (nI_ge (by omega) (by omega)), px_byteAt bt (by omega) (by omega), px_isDigit]
    unfold prun
    by_cases h : cD (bt e).toInt = true
    · rw [if_pos h, if_neg (by decide), if_pos h, ← nI_succ]
      exact ih (e + 1) z t s (by omega) (by omega)
    · rw [if_neg h, if_pos rfl, if_neg h]
theorem px_step2 {fk tok st en : Int32} {bt : Nat → Int32} {n : Nat} (hn : n ≤ 1600) : ∀ (k e z : Nat) (t s : Int32), e + k = n → k < z → (lfX6_step fk tok st en (nI n) bt z).2.1 t s (nI e) = (t, s, nI (prun (fun j => cL (bt j).toInt) k e)) := by
  intro k
  induction k with
  | zero =>
    intro e z t s he hz
    obtain ⟨z, rfl⟩ : ∃ y, z = y + 1 := ⟨z - 1, by omega⟩
    show dfX6_step_108 fk tok st en (nI n) bt (lfX6_step fk tok st en (nI n) bt z) t s (nI e) = _
    unfold dfX6_step_108 bfX6_step_227
    rw [if_pos (nI_le (by omega) (by omega))]
    rfl
  | succ k ih =>
    intro e z t s he hz
    obtain ⟨z, rfl⟩ : ∃ y, z = y + 1 := ⟨z - 1, by omega⟩
    show dfX6_step_108 fk tok st en (nI n) bt (lfX6_step fk tok st en (nI n) bt z) t s (nI e) = _
    unfold dfX6_step_108 bfX6_step_227 cal
    dsimp only
    rw [if_neg (nI_ge (by omega) (by omega)), px_byteAt bt (by omega) (by omega), px_isLetter]
    unfold prun
    by_cases h : cL (bt e).toInt = true
    · rw [if_pos h, if_neg (by decide), if_pos h, ← nI_succ]
      exact ih (e + 1) z t s (by omega) (by omega)
    · rw [if_neg h, if_pos rfl, if_neg h]
def ptok (b : Nat → Int) (n s : Nat) : Nat × Nat :=
  if s < n then
    if cL (b s) = true then (2, prun (fun j => cL (b j)) (n - s) s)
    else if cD (b s) = true then (3, prun (fun j => cD (b j)) (n - s) s)
    else if b s = 59 then (4, s + 1) else (1, s + 1)
  else (0, s)
theorem px_step57 {fk tok st en : Int32} {bt : Nat → Int32} {n : Nat} (hn : n ≤ 1600) (s z : Nat) (t e : Int32) (hs : s ≤ n) (hz : n < z) : bfX6_step_57 fk tok st en (nI n) bt (lfX6_step fk tok st en (nI n) bt z) t (nI s) e = (nI (ptok (fun j => (bt j).toInt) n s).1, nI s, nI (ptok (fun j => (bt j).toInt) n s).2) := by
  unfold bfX6_step_57 ptok cal
  dsimp only
  by_cases h : s < n
  · rw [if_pos (nI_lt h (by omega)), if_pos h, px_byteAt bt (by omega) h, px_isLetter]
    by_cases h1 : cL (bt s).toInt = true
    · rw [if_pos h1, if_neg (by decide), if_pos h1]
      exact px_step2 hn (n - s) s z _ _ (by omega) (by omega)
    · rw [if_neg h1, if_pos rfl, if_neg h1, px_isDigit]
      by_cases h2 : cD (bt s).toInt = true
      · rw [if_pos h2, if_neg (by decide), if_pos h2]
        exact px_step3 hn (n - s) s z _ _ (by omega) (by omega)
      · rw [if_neg h2, if_pos rfl, if_neg h2]
        unfold bfX6_step_214 bfX6_step_227
        have k1 : (59 : Int32).toInt = 59 := by decide
        by_cases h3 : (bt s).toInt = 59
        · rw [if_pos (Int32.toInt_inj.mp (by rw [k1]; exact h3)), if_pos h3]
          show ((4 : Int32), nI s, nI s + 1) = (nI 4, nI s, nI (s + 1))
          rw [nI_succ s]
          rfl
        · rw [if_neg (fun q => h3 (by rw [q]; exact k1)), if_neg h3]
          show ((1 : Int32), nI s, nI s + 1) = (nI 1, nI s, nI (s + 1))
          rw [nI_succ s]
          rfl
  · rw [if_neg (nI_nlt (by omega) (by omega)), if_neg h]
    unfold bfX6_step_227
    rfl
theorem px_step1 {fk tok st en : Int32} {bt : Nat → Int32} {n : Nat} (hn : n ≤ 1600) : ∀ (k s z : Nat), s + k = n → n + k + 1 < z → (lfX6_step fk tok st en (nI n) bt z).1 (nI s) = (nI (ptok (fun j => (bt j).toInt) n (prun (fun j => cB (bt j).toInt) k s)).1, nI (prun (fun j => cB (bt j).toInt) k s), nI (ptok (fun j => (bt j).toInt) n (prun (fun j => cB (bt j).toInt) k s)).2) := by
  intro k
  induction k with
  | zero =>
    intro s z he hz
    obtain ⟨z, rfl⟩ : ∃ y, z = y + 1 := ⟨z - 1, by omega⟩
    show dfX6_step_16 fk tok st en (nI n) bt (lfX6_step fk tok st en (nI n) bt z) (nI s) = _
    unfold dfX6_step_16
    rw [if_pos (nI_le (by omega) (by omega))]
    exact px_step57 hn s z _ _ (by omega) (by omega)
  | succ k ih =>
    intro s z he hz
    obtain ⟨z, rfl⟩ : ∃ y, z = y + 1 := ⟨z - 1, by omega⟩
    show dfX6_step_16 fk tok st en (nI n) bt (lfX6_step fk tok st en (nI n) bt z) (nI s) = _
    unfold dfX6_step_16 cal
    dsimp only
    rw [if_neg (nI_ge (by omega) (by omega)), px_byteAt bt (by omega) (by omega), px_isBlank]
    unfold prun
    by_cases h : cB (bt s).toInt = true
    · rw [if_pos h, if_neg (by decide), if_pos h, ← nI_succ]
      exact ih (s + 1) z (by omega) (by omega)
    · rw [if_neg h, if_pos rfl, if_neg h]
      exact px_step57 hn s z _ _ (by omega) (by omega)
theorem px_step {tok st : Int32} {bt : Nat → Int32} {n p : Nat} (hn : n ≤ 1600) (hp : p ≤ n) : fX6_step 0 tok st (nI p) (nI n) bt = (nI (ptok (fun j => (bt j).toInt) n (prun (fun j => cB (bt j).toInt) (n - p) p)).1, nI (prun (fun j => cB (bt j).toInt) (n - p) p), nI (ptok (fun j => (bt j).toInt) n (prun (fun j => cB (bt j).toInt) (n - p) p)).2) := by
  unfold fX6_step
  rw [if_pos rfl]
  exact px_step1 hn (n - p) p 1000000000 (by omega) (by omega)
theorem pr_in64 (a b c : Int64) : fX12_in a b c = if b.toInt ≤ a.toInt ∧ a.toInt ≤ c.toInt then 1 else 0 := by
  unfold fX12_in bfX12_in_17 bfX12_in_18
  by_cases h1 : lg_cmp a b < 0
  · have h2 := gz_llt h1
    rw [if_pos h1, if_neg (by omega)]
  · have h2 := gz_lge h1
    rw [if_neg h1]
    by_cases h3 : 0 < lg_cmp a c
    · have h4 := gz_lgt h3
      rw [if_pos h3, if_neg (by omega)]
    · have h4 := gz_lle h3
      rw [if_neg h3, if_pos (by omega)]
theorem pr_in (a b c : Int32) : fX12_in a.toInt64 b.toInt64 c.toInt64 = if b.toInt ≤ a.toInt ∧ a.toInt ≤ c.toInt then 1 else 0 := by
  rw [pr_in64, Int32.toInt_toInt64, Int32.toInt_toInt64, Int32.toInt_toInt64]
theorem pr_in1 {a b c : Int32} (h : b.toInt ≤ a.toInt ∧ a.toInt ≤ c.toInt) : fX12_in a.toInt64 b.toInt64 c.toInt64 = 1 := by rw [pr_in, if_pos h]
theorem pr_in0 {a b c : Int32} (h : ¬ (b.toInt ≤ a.toInt ∧ a.toInt ≤ c.toInt)) : fX12_in a.toInt64 b.toInt64 c.toInt64 = 0 := by rw [pr_in, if_neg h]
theorem pr_isAt1 {m : Nat → Int32} {tp : Nat → Int32} {n e : Nat} (h26 : m 26 = nI n) (h29 : m 29 = nI e) (hn : n < 2147483648) (he : e < 2147483648) (lo hi : Int32) (h : e < n ∧ lo.toInt ≤ (tp e).toInt ∧ (tp e).toInt ≤ hi.toInt) : fX12_isAt m tp lo hi = 1 := by
  unfold fX12_isAt bfX12_isAt_35 bfX12_isAt_36 cal
  dsimp only
  rw [h26, h29, nI_clamp (by omega), pr_in, if_neg (nI_ge h.1 (by omega)), if_pos h.2]
  rfl
theorem pr_isAt0 {m : Nat → Int32} {tp : Nat → Int32} {n e : Nat} (h26 : m 26 = nI n) (h29 : m 29 = nI e) (hn : n < 2147483648) (he : e < 2147483648) (lo hi : Int32) (h : ¬ (e < n ∧ lo.toInt ≤ (tp e).toInt ∧ (tp e).toInt ≤ hi.toInt)) : fX12_isAt m tp lo hi = 0 := by
  unfold fX12_isAt bfX12_isAt_35 bfX12_isAt_36 cal
  dsimp only
  rw [h26, h29, nI_clamp (by omega), pr_in]
  by_cases h1 : e < n
  · rw [if_neg (nI_ge h1 (by omega)), if_neg (fun q => h ⟨h1, q⟩)]
    rfl
  · rw [if_pos (nI_le (by omega) (by omega))]
def pvalR (t : Nat → Int) : Nat → Nat → Int → Int
  | 0, _, v => v
  | k + 1, e, v => if cD (t e) = true then pvalR t k (e + 1) (min 100000 (10 * v + t e - 48)) else v
theorem pvalR_0 (t : Nat → Int) (e : Nat) (v : Int) : pvalR t 0 e v = v := rfl
theorem pvalR_s (t : Nat → Int) (k e : Nat) (v : Int) : pvalR t (k + 1) e v = if cD (t e) = true then pvalR t k (e + 1) (min 100000 (10 * v + t e - 48)) else v := rfl
theorem prun_0 (P : Nat → Bool) (p : Nat) : prun P 0 p = p := rfl
theorem pr_next3 {mi tp : Nat → Int32} {n : Nat} (hn : n ≤ 1600) (h26 : mi 26 = nI n) : ∀ (k e z : Nat) (b t v : Int32), e + k = n → k < z → 0 ≤ v.toInt → v.toInt ≤ 100000 → ∃ w : Int32, (lfX12_next mi tp z).2.2 (nI e) b t v = (nI (prun (fun j => cD (tp j).toInt) k e), b, t, w) ∧ w.toInt = pvalR (fun j => (tp j).toInt) k e v.toInt := by
  intro k
  induction k with
  | zero =>
    intro e z b t v he hz h0 h1
    obtain ⟨z, rfl⟩ : ∃ y, z = y + 1 := ⟨z - 1, by omega⟩
    refine ⟨v, ?_, rfl⟩
    show dfX12_next_123 mi tp (lfX12_next mi tp z) (nI e) b t v = _
    unfold dfX12_next_123 bfX12_next_206 cal
    dsimp only
    rw [pr_isAt0 (m := upd (upd (upd (upd mi 29 (nI e)) 30 b) 31 t) 32 v) (tp := tp) (n := n) (e := e) h26 rfl (by omega) (by omega) 48 57 (fun q => absurd q.1 (by omega)), if_pos rfl]
    rfl
  | succ k ih =>
    intro e z b t v he hz h0 h1
    obtain ⟨z, rfl⟩ : ∃ y, z = y + 1 := ⟨z - 1, by omega⟩
    have k1 : (48 : Int32).toInt = 48 := by decide
    have k2 : (57 : Int32).toInt = 57 := by decide
    have k3 : (10 : Int32).toInt = 10 := by decide
    have k4 : (100000 : Int32).toInt = 100000 := by decide
    by_cases h : cD (tp e).toInt = true
    · have hd : 48 ≤ (tp e).toInt ∧ (tp e).toInt ≤ 57 := of_decide_eq_true h
      have m1 := gi_mulI (z := (10 : Int32) * v) rfl (by rw [k3]; omega) (by rw [k3]; omega)
      have m2 := gi_addI (z := (10 : Int32) * v + tp e) rfl (by rw [m1, k3]; omega) (by rw [m1, k3]; omega)
      have m3 := gi_subI (z := (10 : Int32) * v + tp e - (48 : Int32)) rfl (by rw [m2, m1, k3, k1]; omega) (by rw [m2, m1, k3, k1]; omega)
      have m4 := gi_minI (z := if ((10 : Int32) * v + tp e - (48 : Int32)) < (100000 : Int32) then ((10 : Int32) * v + tp e - (48 : Int32)) else (100000 : Int32)) (x := 100000) (y := (10 : Int32) * v + tp e - (48 : Int32)) rfl
      rw [m3, m2, m1, k1, k3, k4] at m4
      obtain ⟨w, h2, h3⟩ := ih (e + 1) z b t (if ((10 : Int32) * v + tp e - (48 : Int32)) < (100000 : Int32) then ((10 : Int32) * v + tp e - (48 : Int32)) else (100000 : Int32)) (by omega) (by omega) (by omega) (by omega)
      refine ⟨w, ?_, ?_⟩
      · show dfX12_next_123 mi tp (lfX12_next mi tp z) (nI e) b t v = _
        unfold dfX12_next_123 cal
        dsimp only
        rw [pr_isAt1 (m := upd (upd (upd (upd mi 29 (nI e)) 30 b) 31 t) 32 v) (tp := tp) (n := n) (e := e) h26 rfl (by omega) (by omega) 48 57 ⟨by omega, by rw [k1]; exact hd.1, by rw [k2]; exact hd.2⟩, if_neg (by decide), ← nI_succ, nI_clamp (show e < 2147483648 by omega)]
        unfold prun
        rw [if_pos h]
        exact h2
      · rw [h3, m4]
        exact (if_pos h).symm
    · refine ⟨v, ?_, ?_⟩
      · show dfX12_next_123 mi tp (lfX12_next mi tp z) (nI e) b t v = _
        unfold dfX12_next_123 bfX12_next_206 cal
        dsimp only
        rw [pr_isAt0 (m := upd (upd (upd (upd mi 29 (nI e)) 30 b) 31 t) 32 v) (tp := tp) (n := n) (e := e) h26 rfl (by omega) (by omega) 48 57 (fun q => h (decide_eq_true (by rw [k1, k2] at q; exact q.2))), if_pos rfl]
        unfold prun
        rw [if_neg h]
      · unfold pvalR
        rw [if_neg h]
theorem pr_next2 {mi tp : Nat → Int32} {n : Nat} (hn : n ≤ 1600) (h26 : mi 26 = nI n) : ∀ (k e z : Nat) (b t v : Int32), e + k = n → k < z → (lfX12_next mi tp z).2.1 (nI e) b t v = (nI (prun (fun j => cL (tp j).toInt) k e), b, t, v) := by
  intro k
  have k1 : (97 : Int32).toInt = 97 := by decide
  have k2 : (122 : Int32).toInt = 122 := by decide
  induction k with
  | zero =>
    intro e z b t v he hz
    obtain ⟨z, rfl⟩ : ∃ y, z = y + 1 := ⟨z - 1, by omega⟩
    show dfX12_next_83 mi tp (lfX12_next mi tp z) (nI e) b t v = _
    unfold dfX12_next_83 bfX12_next_206 cal
    dsimp only
    rw [pr_isAt0 (m := upd (upd (upd (upd mi 29 (nI e)) 30 b) 31 t) 32 v) (tp := tp) (n := n) (e := e) h26 rfl (by omega) (by omega) 97 122 (fun q => absurd q.1 (by omega)), if_pos rfl]
    rfl
  | succ k ih =>
    intro e z b t v he hz
    obtain ⟨z, rfl⟩ : ∃ y, z = y + 1 := ⟨z - 1, by omega⟩
    show dfX12_next_83 mi tp (lfX12_next mi tp z) (nI e) b t v = _
    unfold dfX12_next_83 bfX12_next_206 cal
    dsimp only
    unfold prun
    by_cases h : cL (tp e).toInt = true
    · rw [pr_isAt1 (m := upd (upd (upd (upd mi 29 (nI e)) 30 b) 31 t) 32 v) (tp := tp) (n := n) (e := e) h26 rfl (by omega) (by omega) 97 122 ⟨by omega, by rw [k1, k2]; exact of_decide_eq_true h⟩, if_neg (by decide), if_pos h, ← nI_succ]
      exact ih (e + 1) z b t v (by omega) (by omega)
    · rw [pr_isAt0 (m := upd (upd (upd (upd mi 29 (nI e)) 30 b) 31 t) 32 v) (tp := tp) (n := n) (e := e) h26 rfl (by omega) (by omega) 97 122 (fun q => h (decide_eq_true (by rw [k1, k2] at q; exact q.2))), if_pos rfl, if_neg h]
def pkind (k : Nat) : Nat := if k = 0 then 0 else if k = 1 then 4 else if k = 2 then 1 else if k = 3 then 2 else 3
def pvalT (b : Nat → Int) (n s : Nat) : Int := if s < n ∧ cL (b s) = false ∧ cD (b s) = true then pvalR b (n - s) s 0 else 0
theorem pr_next1 {mi tp : Nat → Int32} {n : Nat} (hn : n ≤ 1600) (h26 : mi 26 = nI n) : ∀ (k s z : Nat), s + k = n → n + k + 1 < z → ∃ w : Int32, (lfX12_next mi tp z).1 (nI s) = (nI (ptok (fun j => (tp j).toInt) n (prun (fun j => cB (tp j).toInt) k s)).2, nI (prun (fun j => cB (tp j).toInt) k s), nI (pkind (ptok (fun j => (tp j).toInt) n (prun (fun j => cB (tp j).toInt) k s)).1), w) ∧ w.toInt = pvalT (fun j => (tp j).toInt) n (prun (fun j => cB (tp j).toInt) k s) := by
  intro k
  have a1 : (97 : Int32).toInt = 97 := by decide
  have a2 : (122 : Int32).toInt = 122 := by decide
  have d1 : (48 : Int32).toInt = 48 := by decide
  have d2 : (57 : Int32).toInt = 57 := by decide
  have b1 : (32 : Int32).toInt = 32 := by decide
  have b2 : (10 : Int32).toInt = 10 := by decide
  have c1 : (59 : Int32).toInt = 59 := by decide
  have z0 : (0 : Int32).toInt = 0 := by decide
  induction k with
  | zero =>
    intro s z he hz
    obtain ⟨z, rfl⟩ : ∃ y, z = y + 1 := ⟨z - 1, by omega⟩
    have hs : s = n := by omega
    subst hs
    refine ⟨0, ?_, ?_⟩
    · show dfX12_next_0 mi tp (lfX12_next mi tp z) (nI s) = _
      unfold dfX12_next_0 bfX12_next_206 cal
      dsimp only
      rw [pr_isAt0 (m := upd mi 29 (nI s)) (tp := tp) (n := s) (e := s) h26 rfl (by omega) (by omega) 32 32 (fun q => absurd q.1 (by omega)), if_pos rfl, pr_isAt0 (m := upd mi 29 (nI s)) (tp := tp) (n := s) (e := s) h26 rfl (by omega) (by omega) 10 10 (fun q => absurd q.1 (by omega)), if_pos rfl, if_pos h26.symm]
      unfold prun ptok
      rw [if_neg (by omega)]
      rfl
    · unfold prun pvalT
      rw [if_neg (fun q => absurd q.1 (by omega))]
      exact z0
  | succ k ih =>
    intro s z he hz
    obtain ⟨z, rfl⟩ : ∃ y, z = y + 1 := ⟨z - 1, by omega⟩
    have hsn : s < n := by omega
    by_cases h : cB (tp s).toInt = true
    · obtain ⟨w, h2, h3⟩ := ih (s + 1) z (by omega) (by omega)
      have hb : (tp s).toInt = 32 ∨ (tp s).toInt = 10 := of_decide_eq_true h
      have hr : prun (fun j => cB (tp j).toInt) (k + 1) s = prun (fun j => cB (tp j).toInt) k (s + 1) := by
        show (if cB (tp s).toInt = true then _ else _) = _
        rw [if_pos h]
      rw [hr]
      refine ⟨w, ?_, h3⟩
      show dfX12_next_0 mi tp (lfX12_next mi tp z) (nI s) = _
      unfold dfX12_next_0 bfX12_next_22 cal
      dsimp only
      by_cases h4 : (tp s).toInt = 32
      · rw [pr_isAt1 (m := upd mi 29 (nI s)) (tp := tp) (n := n) (e := s) h26 rfl (by omega) (by omega) 32 32 ⟨hsn, by rw [b1]; omega, by rw [b1]; omega⟩, if_neg (by decide), ← nI_succ]
        exact h2
      · rw [pr_isAt0 (m := upd mi 29 (nI s)) (tp := tp) (n := n) (e := s) h26 rfl (by omega) (by omega) 32 32 (fun q => h4 (by rw [b1] at q; omega)), if_pos rfl, pr_isAt1 (m := upd mi 29 (nI s)) (tp := tp) (n := n) (e := s) h26 rfl (by omega) (by omega) 10 10 ⟨hsn, by rw [b2]; omega, by rw [b2]; omega⟩, if_neg (by decide), ← nI_succ]
        exact h2
    · have hb : ¬ ((tp s).toInt = 32 ∨ (tp s).toInt = 10) := fun q => h (decide_eq_true q)
      have hr : prun (fun j => cB (tp j).toInt) (k + 1) s = s := by
        show (if cB (tp s).toInt = true then _ else _) = _
        rw [if_neg h]
      rw [hr]
      have key : ∀ R : Int32 × Int32 × Int32 × Int32, (if (nI s) = (mi 26) then (nI s, nI s, (0 : Int32), (0 : Int32)) else R) = R := fun R => if_neg (fun q => absurd (congrArg Int32.toInt (q.trans h26)) (by rw [nI_toInt (by omega), nI_toInt (by omega)]; omega))
      by_cases h5 : cL (tp s).toInt = true
      · refine ⟨0, ?_, ?_⟩
        · show dfX12_next_0 mi tp (lfX12_next mi tp z) (nI s) = _
          unfold dfX12_next_0 bfX12_next_206 cal
          dsimp only
          rw [pr_isAt0 (m := upd mi 29 (nI s)) (tp := tp) (n := n) (e := s) h26 rfl (by omega) (by omega) 32 32 (fun q => hb (by rw [b1] at q; omega)), if_pos rfl, pr_isAt0 (m := upd mi 29 (nI s)) (tp := tp) (n := n) (e := s) h26 rfl (by omega) (by omega) 10 10 (fun q => hb (by rw [b2] at q; omega)), if_pos rfl, key, pr_isAt1 (m := upd (upd (upd mi 29 (nI s)) 30 (nI s)) 32 0) (tp := tp) (n := n) (e := s) h26 rfl (by omega) (by omega) 97 122 ⟨hsn, by rw [a1, a2]; exact of_decide_eq_true h5⟩, if_neg (by decide), pr_next2 hn h26 (n - s) s z _ _ _ (by omega) (by omega)]
          unfold ptok
          rw [if_pos hsn, if_pos h5]
          rfl
        · unfold pvalT
          rw [if_neg (fun q => absurd q.2.1 (by rw [h5]; decide))]
          exact z0
      · by_cases h6 : cD (tp s).toInt = true
        · obtain ⟨w, h7, h8⟩ := pr_next3 hn h26 (n - s) s z (nI s) 2 0 (by omega) (by omega) (by decide) (by decide)
          refine ⟨w, ?_, ?_⟩
          · show dfX12_next_0 mi tp (lfX12_next mi tp z) (nI s) = _
            unfold dfX12_next_0 bfX12_next_206 cal
            dsimp only
            rw [pr_isAt0 (m := upd mi 29 (nI s)) (tp := tp) (n := n) (e := s) h26 rfl (by omega) (by omega) 32 32 (fun q => hb (by rw [b1] at q; omega)), if_pos rfl, pr_isAt0 (m := upd mi 29 (nI s)) (tp := tp) (n := n) (e := s) h26 rfl (by omega) (by omega) 10 10 (fun q => hb (by rw [b2] at q; omega)), if_pos rfl, key, pr_isAt0 (m := upd (upd (upd mi 29 (nI s)) 30 (nI s)) 32 0) (tp := tp) (n := n) (e := s) h26 rfl (by omega) (by omega) 97 122 (fun q => h5 (decide_eq_true (by rw [a1, a2] at q; exact q.2))), if_pos rfl, pr_isAt1 (m := upd (upd (upd mi 29 (nI s)) 30 (nI s)) 32 0) (tp := tp) (n := n) (e := s) h26 rfl (by omega) (by omega) 48 57 ⟨hsn, by rw [d1, d2]; exact of_decide_eq_true h6⟩, if_neg (by decide), h7]
            unfold ptok
            rw [if_pos hsn, if_neg h5, if_pos h6]
            rfl
          · unfold pvalT
            rw [if_pos ⟨hsn, by simpa using h5, h6⟩, h8, z0]
        · refine ⟨0, ?_, ?_⟩
          · show dfX12_next_0 mi tp (lfX12_next mi tp z) (nI s) = _
            unfold dfX12_next_0 bfX12_next_193 bfX12_next_206 cal
            dsimp only
            rw [pr_isAt0 (m := upd mi 29 (nI s)) (tp := tp) (n := n) (e := s) h26 rfl (by omega) (by omega) 32 32 (fun q => hb (by rw [b1] at q; omega)), if_pos rfl, pr_isAt0 (m := upd mi 29 (nI s)) (tp := tp) (n := n) (e := s) h26 rfl (by omega) (by omega) 10 10 (fun q => hb (by rw [b2] at q; omega)), if_pos rfl, key, pr_isAt0 (m := upd (upd (upd mi 29 (nI s)) 30 (nI s)) 32 0) (tp := tp) (n := n) (e := s) h26 rfl (by omega) (by omega) 97 122 (fun q => h5 (decide_eq_true (by rw [a1, a2] at q; exact q.2))), if_pos rfl, pr_isAt0 (m := upd (upd (upd mi 29 (nI s)) 30 (nI s)) 32 0) (tp := tp) (n := n) (e := s) h26 rfl (by omega) (by omega) 48 57 (fun q => h6 (decide_eq_true (by rw [d1, d2] at q; exact q.2))), if_pos rfl]
            unfold ptok
            rw [if_pos hsn, if_neg h5, if_neg h6, ← nI_succ]
            by_cases h7 : (tp s).toInt = 59
            · rw [pr_isAt1 (m := upd (upd (upd mi 29 (nI s)) 30 (nI s)) 32 0) (tp := tp) (n := n) (e := s) h26 rfl (by omega) (by omega) 59 59 ⟨hsn, by rw [c1]; omega, by rw [c1]; omega⟩, if_neg (by decide), if_pos h7]
              rfl
            · rw [pr_isAt0 (m := upd (upd (upd mi 29 (nI s)) 30 (nI s)) 32 0) (tp := tp) (n := n) (e := s) h26 rfl (by omega) (by omega) 59 59 (fun q => h7 (by rw [c1] at q; omega)), if_pos rfl, if_neg h7]
              rfl
          · unfold pvalT
            rw [if_neg (fun q => h6 q.2.2)]
            exact z0
theorem pr_next {mi tp : Nat → Int32} {n p : Nat} (hn : n ≤ 1600) (hp : p ≤ n) (h26 : mi 26 = nI n) (h29 : mi 29 = nI p) : ∃ w : Int32, fX12_next mi tp = (nI (ptok (fun j => (tp j).toInt) n (prun (fun j => cB (tp j).toInt) (n - p) p)).2, nI (prun (fun j => cB (tp j).toInt) (n - p) p), nI (pkind (ptok (fun j => (tp j).toInt) n (prun (fun j => cB (tp j).toInt) (n - p) p)).1), w) ∧ w.toInt = pvalT (fun j => (tp j).toInt) n (prun (fun j => cB (tp j).toInt) (n - p) p) := by
  unfold fX12_next
  rw [h29]
  exact pr_next1 hn h26 (n - p) p 1000000000 (by omega) (by omega)
abbrev aS : Type := Bool × Int32 × Int32 × Nat
def aOk (s : Nat) : aS := (false, 0, -1, s)
def aBad (k p : Int32) : aS := (true, k, p, 0)
def aNext (b : Nat → Int) (n s : Nat) : Nat := prun (fun j => cB (b j)) (n - (ptok b n s).2) (ptok b n s).2
def aStep (b : Nat → Int) (n : Nat) (a : aS) : aS := if a.1 = true then a else aOk (aNext b n a.2.2.2)
def aExp (c : Bool) (k : Int32) (a : aS) : aS := if a.1 = true then a else if c = true then a else aBad k (nI a.2.2.2)
def aRC (b : Nat → Int) (n : Nat) (a : aS) (fk fp tok st en : Int32) : Prop :=
  if a.1 = true then a.2.1 ≠ 0 ∧ fk = a.2.1 ∧ fp = a.2.2.1
  else a = aOk a.2.2.2 ∧ fk = 0 ∧ fp = -1 ∧ a.2.2.2 ≤ n ∧ tok = nI (ptok b n a.2.2.2).1 ∧ st = nI a.2.2.2 ∧ en = nI (ptok b n a.2.2.2).2
theorem aRC_bad {b : Nat → Int} {n : Nat} {k p tok st en : Int32} (hk : k ≠ 0) : aRC b n (aBad k p) k p tok st en := by
  unfold aRC aBad
  rw [if_pos rfl]
  exact ⟨hk, rfl, rfl⟩
theorem aRC_ok {b : Nat → Int} {n s : Nat} (h : s ≤ n) : aRC b n (aOk s) 0 (-1) (nI (ptok b n s).1) (nI s) (nI (ptok b n s).2) := by
  unfold aRC aOk
  rw [if_neg Bool.false_ne_true]
  exact ⟨rfl, rfl, rfl, h, rfl, rfl, rfl⟩
theorem aRC_cases {b : Nat → Int} {n : Nat} {a : aS} {fk fp tok st en : Int32} (h : aRC b n a fk fp tok st en) : (a.1 = true ∧ a.2.1 ≠ 0 ∧ fk = a.2.1 ∧ fp = a.2.2.1) ∨ ∃ s, a = aOk s ∧ fk = 0 ∧ fp = -1 ∧ s ≤ n ∧ tok = nI (ptok b n s).1 ∧ st = nI s ∧ en = nI (ptok b n s).2 := by
  unfold aRC at h
  by_cases h1 : a.1 = true
  · rw [if_pos h1] at h
    exact Or.inl ⟨h1, h⟩
  · rw [if_neg h1] at h
    exact Or.inr ⟨a.2.2.2, h⟩
theorem ptok_le (b : Nat → Int) {n s : Nat} (h : s ≤ n) : s ≤ (ptok b n s).2 ∧ (ptok b n s).2 ≤ n := by
  unfold ptok
  have h1 := prun_le (fun j => cL (b j)) (n - s) s
  have h2 := prun_le (fun j => cD (b j)) (n - s) s
  split
  · split
    · show s ≤ prun _ _ _ ∧ prun _ _ _ ≤ n
      omega
    · split
      · show s ≤ prun _ _ _ ∧ prun _ _ _ ≤ n
        omega
      · split
        · show s ≤ s + 1 ∧ s + 1 ≤ n
          omega
        · show s ≤ s + 1 ∧ s + 1 ≤ n
          omega
  · exact ⟨Nat.le_refl _, h⟩
theorem aNext_le (b : Nat → Int) {n s : Nat} (h : s ≤ n) : aNext b n s ≤ n := by
  have h1 := ptok_le b h
  have h2 := prun_le (fun j => cB (b j)) (n - (ptok b n s).2) (ptok b n s).2
  unfold aNext
  omega
theorem cx_expect {b : Nat → Int} {n : Nat} {a : aS} {fk fp tok st en : Int32} (c : Bool) {k p1 : Int32} (hk : k ≠ 0) (hp : a.1 = false → p1 = if c = true then 1 else 0) (h : aRC b n a fk fp tok st en) : aRC b n (aExp c k a) (fX6_expect fk fp st p1 k).1 (fX6_expect fk fp st p1 k).2 tok st en := by
  unfold aExp fX6_expect bfX6_expect_13 fX6_blame bfX6_blame_17 cal
  dsimp only
  rcases aRC_cases h with ⟨h1, h2, rfl, rfl⟩ | ⟨s, rfl, rfl, rfl, hs, rfl, rfl, rfl⟩
  · rw [if_pos h1]
    by_cases h3 : p1 = 0
    · rw [if_pos h3, if_neg h2]
      exact h
    · rw [if_neg h3]
      exact h
  · rw [if_neg (show ¬ (aOk s).1 = true from Bool.false_ne_true)]
    have hp := hp rfl
    cases c with
    | true =>
      have e1 : p1 = 1 := hp.trans (if_pos rfl)
      rw [e1, if_pos rfl, if_neg (show ¬ (1 : Int32) = 0 by decide)]
      exact h
    | false =>
      have e1 : p1 = 0 := hp.trans (if_neg Bool.false_ne_true)
      rw [e1, if_neg Bool.false_ne_true]
      simp only [if_true]
      exact aRC_bad hk
theorem cx_step {bt : Nat → Int32} {n : Nat} {a : aS} {fk fp tok st en : Int32} (hn : n ≤ 1600) (h : aRC (fun j => (bt j).toInt) n a fk fp tok st en) : aRC (fun j => (bt j).toInt) n (aStep (fun j => (bt j).toInt) n a) fk fp (fX6_step fk tok st en (nI n) bt).1 (fX6_step fk tok st en (nI n) bt).2.1 (fX6_step fk tok st en (nI n) bt).2.2 := by
  unfold aStep
  rcases aRC_cases h with ⟨h1, h2, rfl, rfl⟩ | ⟨s, rfl, rfl, rfl, hs, rfl, rfl, rfl⟩
  · rw [if_pos h1]
    unfold aRC
    rw [if_pos h1]
    exact ⟨h2, rfl, rfl⟩
  · rw [if_neg (show ¬ (aOk s).1 = true from Bool.false_ne_true), px_step hn (ptok_le _ hs).2]
    exact aRC_ok (aNext_le _ hs)
theorem pz_nsub {a b : Nat} (h : b ≤ a) (ha : a < 2147483648) : nI a - nI b = nI (a - b) := by
  have h1 := nI_toInt (n := a) (by omega)
  have h2 := nI_toInt (n := b) (by omega)
  have h3 := nI_toInt (n := a - b) (by omega)
  have h4 := gi_subI (z := nI a - nI b) rfl (by omega) (by omega)
  exact Int32.toInt_inj.mp (by omega)
theorem pz_ninj {a b : Nat} (ha : a < 2147483648) (hb : b < 2147483648) (h : nI a = nI b) : a = b := by
  have h1 := nI_toInt (n := a) (by omega)
  have h2 := nI_toInt (n := b) (by omega)
  rw [h] at h1
  omega
theorem ptok_kind (b : Nat → Int) (n s : Nat) : (ptok b n s).1 ≤ 4 := by
  unfold ptok
  split
  · split
    · exact Nat.le_of_ble_eq_true rfl
    · split
      · exact Nat.le_of_ble_eq_true rfl
      · split
        · exact Nat.le_of_ble_eq_true rfl
        · exact Nat.le_of_ble_eq_true rfl
  · exact Nat.le_of_ble_eq_true rfl
def pwd (f : Nat → Int32) (L : List Int32) (s : Nat) : Nat → Nat → Int32
  | 0, _ => 1
  | k + 1, i => if f (s + i) = (L.getD i 0 &&& 255) then pwd f L s k (i + 1) else 0
def aIs (f : Nat → Int32) (n s : Nat) (L : List Int32) : Bool := decide ((ptok (fun j => (f j).toInt) n s).1 = 2 ∧ (ptok (fun j => (f j).toInt) n s).2 - s = L.length ∧ pwd f L s L.length 0 = 1)
theorem pwd_0 (f : Nat → Int32) (L : List Int32) (s i : Nat) : pwd f L s 0 i = 1 := rfl
theorem pwd_01 (f : Nat → Int32) (L : List Int32) (s : Nat) : ∀ k i : Nat, pwd f L s k i = 0 ∨ pwd f L s k i = 1 := by
  intro k
  induction k with
  | zero => intro i; exact Or.inr rfl
  | succ k ih =>
    intro i
    unfold pwd
    split
    · exact ih (i + 1)
    · exact Or.inl rfl
theorem px_wordL {tok en : Int32} {bt : Nat → Int32} {n s wi : Nat} (hn : n ≤ 1600) (hs : s + (stL wi).length ≤ n) : ∀ k i z : Nat, i + k = (stL wi).length → k < z → lfX6_isWord tok (nI s) en (nI n) bt wi z (nI i) = pwd bt (stL wi) s k i := by
  intro k
  induction k with
  | zero =>
    intro i z hi hz
    obtain ⟨z, rfl⟩ : ∃ y, z = y + 1 := ⟨z - 1, by omega⟩
    show dfX6_isWord_28 tok (nI s) en (nI n) bt wi (lfX6_isWord tok (nI s) en (nI n) bt wi z) (nI i) = _
    unfold dfX6_isWord_28
    rw [if_pos (nI_le (by omega) (by omega))]
    rfl
  | succ k ih =>
    intro i z hi hz
    obtain ⟨z, rfl⟩ : ∃ y, z = y + 1 := ⟨z - 1, by omega⟩
    show dfX6_isWord_28 tok (nI s) en (nI n) bt wi (lfX6_isWord tok (nI s) en (nI n) bt wi z) (nI i) = _
    unfold dfX6_isWord_28 cal
    dsimp only
    rw [if_neg (nI_ge (by omega) (by omega)), nI_add, px_byteAt bt (by omega) (by omega), nI_clamp (by omega), ← nI_succ, ih (i + 1) z (by omega) (by omega)]
    rfl
theorem px_isWord {bt : Nat → Int32} {n s wi : Nat} (hn : n ≤ 1600) (hs : s ≤ n) (hw : (stL wi).length ≤ 7) : fX6_isWord (nI (ptok (fun j => (bt j).toInt) n s).1) (nI s) (nI (ptok (fun j => (bt j).toInt) n s).2) (nI n) bt wi = if aIs bt n s (stL wi) = true then 1 else 0 := by
  have hk := ptok_kind (fun j => (bt j).toInt) n s
  have he := ptok_le (fun j => (bt j).toInt) hs
  unfold fX6_isWord bfX6_isWord_24 aIs
  simp only [decide_eq_true_eq]
  by_cases h1 : (ptok (fun j => (bt j).toInt) n s).1 = 2
  · rw [if_pos (by rw [h1]; rfl), pz_nsub he.1 (by omega)]
    by_cases h2 : (ptok (fun j => (bt j).toInt) n s).2 - s = (stL wi).length
    · rw [if_pos (by rw [h2]), show (0 : Int32) = nI 0 from rfl, px_wordL hn (by omega) (stL wi).length 0 1000000000 (by omega) (by omega)]
      rcases pwd_01 bt (stL wi) s (stL wi).length 0 with h3 | h3
      · rw [h3, if_neg (fun q => absurd q.2.2 (by decide))]
        rfl
      · rw [h3, if_pos ⟨h1, h2, rfl⟩]
    · rw [if_neg (fun q => h2 (pz_ninj (by omega) (by omega) q)), if_neg (fun q => h2 q.2.1)]
  · rw [if_neg (fun (q : nI (ptok (fun j => (bt j).toInt) n s).1 = (2 : Int32)) => h1 (pz_ninj (b := 2) (by omega) (by omega) q)), if_neg (fun q => h1 q.1)]
theorem pr_wordL0 {mi tp : Nat → Int32} {wi : Nat} (z : Nat) (hz : 0 < z) : lfX12_isWord mi tp wi z 0 0 = 0 := by
  obtain ⟨z, rfl⟩ : ∃ y, z = y + 1 := ⟨z - 1, by omega⟩
  show dfX12_isWord_32 mi tp wi (lfX12_isWord mi tp wi z) 0 0 = _
  unfold dfX12_isWord_32 bfX12_isWord_75
  split
  · rfl
  · rw [if_pos rfl]
theorem pr_wordL {mi tp : Nat → Int32} {n s wi : Nat} (hn : n ≤ 1600) (h30 : mi 30 = nI s) (hs : s + (stL wi).length ≤ n) : ∀ k i z : Nat, i + k = (stL wi).length → k + 1 < z → lfX12_isWord mi tp wi z 1 (nI i) = pwd tp (stL wi) s k i := by
  intro k
  induction k with
  | zero =>
    intro i z hi hz
    obtain ⟨z, rfl⟩ : ∃ y, z = y + 1 := ⟨z - 1, by omega⟩
    show dfX12_isWord_32 mi tp wi (lfX12_isWord mi tp wi z) 1 (nI i) = _
    unfold dfX12_isWord_32 bfX12_isWord_75
    rw [if_pos (nI_le (by omega) (by omega))]
    rfl
  | succ k ih =>
    intro i z hi hz
    obtain ⟨z, rfl⟩ : ∃ y, z = y + 1 := ⟨z - 1, by omega⟩
    show dfX12_isWord_32 mi tp wi (lfX12_isWord mi tp wi z) 1 (nI i) = _
    unfold dfX12_isWord_32 bfX12_isWord_68
    rw [if_neg (nI_ge (by omega) (by omega)), if_neg (by decide), h30, nI_add, nI_clamp (by omega), nI_clamp (by omega), ← nI_succ]
    unfold pwd
    split
    · exact ih (i + 1) z (by omega) (by omega)
    · obtain ⟨z, rfl⟩ : ∃ y, z = y + 1 := ⟨z - 1, by omega⟩
      show dfX12_isWord_32 mi tp wi (lfX12_isWord mi tp wi z) 0 (nI (i + 1)) = _
      unfold dfX12_isWord_32 bfX12_isWord_75
      split
      · rfl
      · rw [if_pos rfl]
theorem pkind_1 {k : Nat} (h : k ≤ 4) : pkind k = 1 ↔ k = 2 := by
  unfold pkind
  rcases (show k = 0 ∨ k = 1 ∨ k = 2 ∨ k = 3 ∨ k = 4 by omega) with rfl | rfl | rfl | rfl | rfl <;> decide
theorem pkind_le {k : Nat} (h : k ≤ 4) : pkind k ≤ 4 := by
  unfold pkind
  rcases (show k = 0 ∨ k = 1 ∨ k = 2 ∨ k = 3 ∨ k = 4 by omega) with rfl | rfl | rfl | rfl | rfl <;> decide
theorem pr_isWord {mi tp : Nat → Int32} {n s wi : Nat} (hn : n ≤ 1600) (hs : s ≤ n) (hw : (stL wi).length ≤ 7) (h29 : mi 29 = nI (ptok (fun j => (tp j).toInt) n s).2) (h30 : mi 30 = nI s) (h31 : mi 31 = nI (pkind (ptok (fun j => (tp j).toInt) n s).1)) : fX12_isWord mi tp wi = if aIs tp n s (stL wi) = true then 1 else 0 := by
  have hk := ptok_kind (fun j => (tp j).toInt) n s
  have hk2 := pkind_le hk
  have he := ptok_le (fun j => (tp j).toInt) hs
  unfold fX12_isWord bfX12_isWord_28 bfX12_isWord_29 aIs
  rw [h29, h31, pr_wordL0 1000000000 (by omega)]
  rw [show (mi 30) = nI s from h30, pz_nsub he.1 (by omega)]
  simp only [decide_eq_true_eq]
  by_cases h1 : (ptok (fun j => (tp j).toInt) n s).1 = 2
  · rw [if_pos (by rw [h1]; rfl)]
    by_cases h2 : (ptok (fun j => (tp j).toInt) n s).2 - s = (stL wi).length
    · rw [if_pos (by rw [h2]), show (0 : Int32) = nI 0 from rfl, pr_wordL hn h30 (by omega) (stL wi).length 0 1000000000 (by omega) (by omega)]
      rcases pwd_01 tp (stL wi) s (stL wi).length 0 with h3 | h3
      · rw [h3, if_neg (fun q => absurd q.2.2 (by decide))]
        rfl
      · rw [h3, if_pos ⟨h1, h2, rfl⟩]
    · rw [if_neg (fun q => h2 (pz_ninj (by omega) (by omega) q)), if_neg (fun q => h2 q.2.1)]
  · rw [if_neg (fun (q : nI (pkind (ptok (fun j => (tp j).toInt) n s).1) = (1 : Int32)) => h1 ((pkind_1 hk).mp (pz_ninj (b := 1) (by omega) (by omega) q))), if_neg (fun q => h1 q.1)]
