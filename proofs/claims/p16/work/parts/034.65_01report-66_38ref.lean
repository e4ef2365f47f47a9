noncomputable def mt_report (mi : Nat → Int32) (fm : Nat → Nat → Int32) (o : Int32) : Int32 × (Nat → Int32) × (Nat → Nat → Int32) := (o, mi, fm)
noncomputable def ms_report (mi : Nat → Int32) (fm : Nat → Nat → Int32) (p1 : Int32) (p2 : Int32) : Int32 × (Nat → Int32) × (Nat → Nat → Int32) := mt_report mi fm (fX12_report mi (fm 4) (fm 7) (fm 2) (fm 5) (fm 6) (fm 3) p1 p2)
set_option maxHeartbeats 4000000 in
set_option maxRecDepth 100000 in
theorem uX12_report (l : Launch) (dC : Nat → ClassId) (dI : Nat → Nat → Nat) (sz : Nat) (hm : Nat) (mi : Nat → Int32) (mr : Nat → Nat) (km : Nat → ClassId) (fm : Nat → Nat → Int32) (hI : MI mi fm) (p1 : Int32) (p2 : Int32) : Met l yX12_report (.code yX12_report cX12_report 3 (some .int) :: wsGB) ({ frames := 2, cells := 0, slots := 0, locals := 46 }) (va_Pc [.ref hm, .int p1, .int p2] (fun U => U.heap.size = sz ∧ va_P (dC, dI) vwCl (MW hm mi mr km fm) U.heap ∧ va_K (dC, dI) vwCl (MT km) U ∧ va_D (fun _ => True) (MW hm mi mr km fm))) (va_Qi (fun (r : Int32) (u : Int32) => r = u) (fun r t => MB dC dI hm mi mr km fm sz (fun v f => (r, v, f) = ms_report mi fm p1 p2) t) (va_A (MW hm mi mr km fm) sz)) 0 0 (va_A (MW hm mi mr km fm) sz) := by
  refine gz_mono (sX12_report l dC dI hm mi mr km (fm 18) (fm 19) (fm 4) (fm 7) (fm 2) (fm 5) (fm 6) (fm 3) (fm 0) (fm 1) (fm 8) (fm 9) (fm 10) (fm 11) (fm 12) (fm 13) (fm 14) (fm 15) (fm 16) (fm 17) (fm 20) (fm 21) (fm 22) (fm 23) p1 p2 hI.1 hI.2.1 hI.2.2.1 hI.2.2.2.1 hI.2.2.2.2.1 hI.2.2.2.2.2.1 hI.2.2.2.2.2.2.1 hI.2.2.2.2.2.2.2.1 hI.2.2.2.2.2.2.2.2.1 hI.2.2.2.2.2.2.2.2.2.1 hI.2.2.2.2.2.2.2.2.2.2.1 hI.2.2.2.2.2.2.2.2.2.2.2.1 hI.2.2.2.2.2.2.2.2.2.2.2.2.2.1 hI.2.2.2.2.2.2.2.2.2.2.2.2.2.2.1 hI.2.2.2.2.2.2.2.2.2.2.2.2.2.2.2.1 hI.2.2.2.2.2.2.2.2.2.2.2.2.2.2.2.2.1 hI.2.2.2.2.2.2.2.2.2.2.2.2.2.2.2.2.2.1 hI.2.2.2.2.2.2.2.2.2.2.2.2.2.2.2.2.2.2.1 hI.2.2.2.2.2.2.2.2.2.2.2.2.2.2.2.2.2.2.2.2.2.2.2.2.2.2.1 hI.2.2.2.2.2.2.2.2.2.2.2.2.2.2.2.2.2.2.2.2.1 hI.2.2.2.2.2.2.2.2.2.2.2.2.2.2.2.2.2.2.2.2.2.2.2.1 hI.2.2.2.2.2.2.2.2.2.2.2.2.2.2.2.2.2.2.2.1 hI.2.2.2.2.2.2.2.2.2.2.2.2.2.2.2.2.2.2.2.2.2.1 hI.2.2.2.2.2.2.2.2.2.2.2.2.2.2.2.2.2.2.2.2.2.2.1) ?_ ?_ ?_
  · rintro args s ⟨rfl, hsz, hP, hK, hD⟩
    exact ⟨rfl, hP, hK⟩
  · rintro args s o t ⟨rfl, hsz, hP, hK, hD⟩ ⟨⟨r, u, ho, hw, hB⟩, hF⟩
    subst hsz
    exact ⟨⟨r, r, ho, rfl, mi, fm, hI, congrArg (mt_report mi fm) hw.2, gz_keep hP hF.2, hD.self⟩, hF.1, fun q h1 h2 => hF.2 q h1 (fun h => h.elim)⟩
  · exact fun q h => h.elim
noncomputable def mt_deed (mi : Nat → Int32) (fm : Nat → Nat → Int32) (o : Int32) : Int32 × (Nat → Int32) × (Nat → Nat → Int32) := (o, mi, fm)
noncomputable def ms_deed (mi : Nat → Int32) (fm : Nat → Nat → Int32) (p1 : Int32) (p2 : Int32) : Int32 × (Nat → Int32) × (Nat → Nat → Int32) := mt_deed mi fm (fX12_deed mi (fm 8) (fm 10) (fm 11) (fm 9) p1 p2)
set_option maxHeartbeats 4000000 in
set_option maxRecDepth 100000 in
theorem uX12_deed (l : Launch) (dC : Nat → ClassId) (dI : Nat → Nat → Nat) (sz : Nat) (hm : Nat) (mi : Nat → Int32) (mr : Nat → Nat) (km : Nat → ClassId) (fm : Nat → Nat → Int32) (hI : MI mi fm) (p1 : Int32) (p2 : Int32) : Met l yX12_deed (.code yX12_deed cX12_deed 3 (some .int) :: wsGB) ({ frames := 2, cells := 0, slots := 0, locals := 46 }) (va_Pc [.ref hm, .int p1, .int p2] (fun U => U.heap.size = sz ∧ va_P (dC, dI) vwCl (MW hm mi mr km fm) U.heap ∧ va_K (dC, dI) vwCl (MT km) U ∧ va_D (fun _ => True) (MW hm mi mr km fm))) (va_Qi (fun (r : Int32) (u : Int32) => r = u) (fun r t => MB dC dI hm mi mr km fm sz (fun v f => (r, v, f) = ms_deed mi fm p1 p2) t) (va_A (MW hm mi mr km fm) sz)) 0 0 (va_A (MW hm mi mr km fm) sz) := by
  refine gz_mono (sX12_deed l dC dI hm mi mr km (fm 8) (fm 10) (fm 11) (fm 9) (fm 0) (fm 1) (fm 2) (fm 3) (fm 4) (fm 5) (fm 6) (fm 7) (fm 12) (fm 13) (fm 14) (fm 15) (fm 16) (fm 17) (fm 18) (fm 19) (fm 20) (fm 21) (fm 22) (fm 23) p1 p2 hI.1 hI.2.1 hI.2.2.1 hI.2.2.2.1 hI.2.2.2.2.1 hI.2.2.2.2.2.1 hI.2.2.2.2.2.2.1 hI.2.2.2.2.2.2.2.1 hI.2.2.2.2.2.2.2.2.1 hI.2.2.2.2.2.2.2.2.2.1 hI.2.2.2.2.2.2.2.2.2.2.1 hI.2.2.2.2.2.2.2.2.2.2.2.1 hI.2.2.2.2.2.2.2.2.2.2.2.2.2.1 hI.2.2.2.2.2.2.2.2.2.2.2.2.2.2.1 hI.2.2.2.2.2.2.2.2.2.2.2.2.2.2.2.1 hI.2.2.2.2.2.2.2.2.2.2.2.2.2.2.2.2.1 hI.2.2.2.2.2.2.2.2.2.2.2.2.2.2.2.2.2.1 hI.2.2.2.2.2.2.2.2.2.2.2.2.2.2.2.2.2.2.1 hI.2.2.2.2.2.2.2.2.2.2.2.2.2.2.2.2.2.2.2.2.2.2.2.2.1 hI.2.2.2.2.2.2.2.2.2.2.2.2.2.2.2.2.2.2.2.2.2.2.2.2.2.1) ?_ ?_ ?_
  · rintro args s ⟨rfl, hsz, hP, hK, hD⟩
    exact ⟨rfl, hP, hK⟩
  · rintro args s o t ⟨rfl, hsz, hP, hK, hD⟩ ⟨⟨r, u, ho, hw, hB⟩, hF⟩
    subst hsz
    exact ⟨⟨r, r, ho, rfl, mi, fm, hI, congrArg (mt_deed mi fm) hw.2, gz_keep hP hF.2, hD.self⟩, hF.1, fun q h1 h2 => hF.2 q h1 (fun h => h.elim)⟩
  · exact fun q h => h.elim
noncomputable def mt_early (mi : Nat → Int32) (fm : Nat → Nat → Int32) (o : Int32) : Int32 × (Nat → Int32) × (Nat → Nat → Int32) := (o, mi, fm)
noncomputable def ms_early (mi : Nat → Int32) (fm : Nat → Nat → Int32) (p1 : Int32) : Int32 × (Nat → Int32) × (Nat → Nat → Int32) := mt_early mi fm (fX12_early mi p1)
set_option maxHeartbeats 4000000 in
set_option maxRecDepth 100000 in
theorem uX12_early (l : Launch) (dC : Nat → ClassId) (dI : Nat → Nat → Nat) (sz : Nat) (hm : Nat) (mi : Nat → Int32) (mr : Nat → Nat) (km : Nat → ClassId) (fm : Nat → Nat → Int32) (hI : MI mi fm) (p1 : Int32) : Met l yX12_early (.code yX12_early cX12_early 2 (some .int) :: wsGB) ({ frames := 1, cells := 0, slots := 0, locals := 25 }) (va_Pc [.ref hm, .int p1] (fun U => U.heap.size = sz ∧ va_P (dC, dI) vwCl (MW hm mi mr km fm) U.heap ∧ va_K (dC, dI) vwCl (MT km) U ∧ va_D (fun _ => True) (MW hm mi mr km fm))) (va_Qi (fun (r : Int32) (u : Int32) => r = u) (fun r t => MB dC dI hm mi mr km fm sz (fun v f => (r, v, f) = ms_early mi fm p1) t) (va_A (MW hm mi mr km fm) sz)) 0 0 (va_A (MW hm mi mr km fm) sz) := by
  refine gz_mono (sX12_early l dC dI hm mi mr km (fm 0) (fm 1) (fm 2) (fm 3) (fm 4) (fm 5) (fm 6) (fm 7) (fm 8) (fm 9) (fm 10) (fm 11) (fm 12) (fm 13) (fm 14) (fm 15) (fm 16) (fm 17) (fm 18) (fm 19) (fm 20) (fm 21) (fm 22) (fm 23) p1 hI.1 hI.2.1 hI.2.2.1 hI.2.2.2.1 hI.2.2.2.2.1 hI.2.2.2.2.2.1 hI.2.2.2.2.2.2.1 hI.2.2.2.2.2.2.2.1 hI.2.2.2.2.2.2.2.2.1 hI.2.2.2.2.2.2.2.2.2.1 hI.2.2.2.2.2.2.2.2.2.2.1 hI.2.2.2.2.2.2.2.2.2.2.2.1 hI.2.2.2.2.2.2.2.2.2.2.2.2.2.1 hI.2.2.2.2.2.2.2.2.2.2.2.2.2.2.1 hI.2.2.2.2.2.2.2.2.2.2.2.2.2.2.2.1 hI.2.2.2.2.2.2.2.2.2.2.2.2.2.2.2.2.1 hI.2.2.2.2.2.2.2.2.2.2.2.2.2.2.2.2.2.1 hI.2.2.2.2.2.2.2.2.2.2.2.2.2.2.2.2.2.2.1) ?_ ?_ ?_
  · rintro args s ⟨rfl, hsz, hP, hK, hD⟩
    exact ⟨rfl, hP, hK⟩
  · rintro args s o t ⟨rfl, hsz, hP, hK, hD⟩ ⟨⟨r, u, ho, hw, hB⟩, hF⟩
    subst hsz
    exact ⟨⟨r, r, ho, rfl, mi, fm, hI, congrArg (mt_early mi fm) hw.2, gz_keep hP hF.2, hD.self⟩, hF.1, fun q h1 h2 => hF.2 q h1 (fun h => h.elim)⟩
  · exact fun q h => h.elim
noncomputable def mt_judged (mi : Nat → Int32) (fm : Nat → Nat → Int32) (o : Int32 × Int32 × Int32 × (Nat → Int32) × (Nat → Int32) × (Nat → Int32) × (Nat → Int32) × (Nat → Int32) × (Nat → Int32)) : Int32 × (Nat → Int32) × (Nat → Nat → Int32) := (o.1, (upd (upd mi 37 o.2.1) 41 o.2.2.1), (updF (updF (updF (updF (updF (updF fm 14 o.2.2.2.1) 15 o.2.2.2.2.1) 16 o.2.2.2.2.2.1) 17 o.2.2.2.2.2.2.1) 18 o.2.2.2.2.2.2.2.1) 19 o.2.2.2.2.2.2.2.2))
noncomputable def ms_judged (mi : Nat → Int32) (fm : Nat → Nat → Int32) (p1 : Int32) (p2 : Int32) : Int32 × (Nat → Int32) × (Nat → Nat → Int32) := mt_judged mi fm (fX12_judged mi (fm 14) (fm 15) (fm 16) (fm 17) (fm 18) (fm 19) (fm 4) (fm 7) (fm 2) (fm 5) (fm 6) (fm 3) (fm 0) (fm 1) p1 p2)
set_option maxHeartbeats 4000000 in
set_option maxRecDepth 100000 in
theorem uX12_judged (l : Launch) (dC : Nat → ClassId) (dI : Nat → Nat → Nat) (sz : Nat) (hm : Nat) (mi : Nat → Int32) (mr : Nat → Nat) (km : Nat → ClassId) (fm : Nat → Nat → Int32) (hI : MI mi fm) (p1 : Int32) (p2 : Int32) : Met l yX12_judged (.code yX12_judged cX12_judged 3 (some .int) :: wsGB) ({ frames := 5, cells := 0, slots := 0, locals := 119 }) (va_Pc [.ref hm, .int p1, .int p2] (fun U => U.heap.size = sz ∧ va_P (dC, dI) vwCl (MW hm mi mr km fm) U.heap ∧ va_K (dC, dI) vwCl (MT km) U ∧ va_D (fun _ => True) (MW hm mi mr km fm))) (va_Qi (fun (r : Int32) (u : Int32) => r = u) (fun r t => MB dC dI hm mi mr km fm sz (fun v f => (r, v, f) = ms_judged mi fm p1 p2) t) (va_A (MW hm mi mr km fm) sz)) 0 0 (va_A (MW hm mi mr km fm) sz) := by
  refine gz_mono (sX12_judged l dC dI sz hm mi mr km (fm 14) (fm 15) (fm 16) (fm 17) (fm 18) (fm 19) (fm 4) (fm 7) (fm 2) (fm 5) (fm 6) (fm 3) (fm 0) (fm 1) (fm 8) (fm 9) (fm 10) (fm 11) (fm 12) (fm 13) (fm 20) (fm 21) (fm 22) (fm 23) p1 p2 hI.1 hI.2.1 hI.2.2.1 hI.2.2.2.1 hI.2.2.2.2.1 hI.2.2.2.2.2.1 hI.2.2.2.2.2.2.1 hI.2.2.2.2.2.2.2.1 hI.2.2.2.2.2.2.2.2.1 hI.2.2.2.2.2.2.2.2.2.1 hI.2.2.2.2.2.2.2.2.2.2.1 hI.2.2.2.2.2.2.2.2.2.2.2.1 hI.2.2.2.2.2.2.2.2.2.2.2.2.2.1 hI.2.2.2.2.2.2.2.2.2.2.2.2.2.2.1 hI.2.2.2.2.2.2.2.2.2.2.2.2.2.2.2.1 hI.2.2.2.2.2.2.2.2.2.2.2.2.2.2.2.2.1 hI.2.2.2.2.2.2.2.2.2.2.2.2.2.2.2.2.2.1 hI.2.2.2.2.2.2.2.2.2.2.2.2.2.2.2.2.2.2.1 hI.2.2.2.2.2.2.2.2.2.2.2.2.2.2.2.2.2.2.2.2.2.2.2.2.2.2.1 hI.2.2.2.2.2.2.2.2.2.2.2.2.2.2.2.2.2.2.2.2.1 hI.2.2.2.2.2.2.2.2.2.2.2.2.2.2.2.2.2.2.2.2.2.2.2.1 hI.2.2.2.2.2.2.2.2.2.2.2.2.2.2.2.2.2.2.2.1 hI.2.2.2.2.2.2.2.2.2.2.2.2.2.2.2.2.2.2.2.2.2.1 hI.2.2.2.2.2.2.2.2.2.2.2.2.2.2.2.2.2.2.2.2.2.2.1) ?_ ?_ ?_
  · rintro args s ⟨rfl, hsz, hP, hK, hD⟩
    exact ⟨rfl, hsz, hP, hK, hD⟩
  · rintro args s o t ⟨rfl, hsz, hP, hK, hD⟩ ⟨⟨r, u, ho, hw, hB⟩, hF⟩
    obtain ⟨w0_37, w0_41, z1, z2, z3, z4, z5, z6, hB⟩ := hB
    obtain ⟨gw0_37, gw0_41, gz6, hE, hP1, hD1⟩ := hB
    obtain ⟨hu9, hw⟩ := hw
    subst hu9
    subst hsz
    exact ⟨⟨r, r, ho, rfl, (upd (upd mi 37 w0_37) 41 w0_41), (updF (updF (updF (updF (updF (updF fm 14 z1) 15 z2) 16 z3) 17 z4) 18 z5) 19 z6), ⟨hI.1, hI.2.1, hI.2.2.1, hI.2.2.2.1, hI.2.2.2.2.1, hI.2.2.2.2.2.1, hI.2.2.2.2.2.2.1, hI.2.2.2.2.2.2.2.1, hI.2.2.2.2.2.2.2.2.1, hI.2.2.2.2.2.2.2.2.2.1, hI.2.2.2.2.2.2.2.2.2.2.1, hI.2.2.2.2.2.2.2.2.2.2.2.1, hI.2.2.2.2.2.2.2.2.2.2.2.2.1, hI.2.2.2.2.2.2.2.2.2.2.2.2.2.1, gw0_37, gw0_41, hI.2.2.2.2.2.2.2.2.2.2.2.2.2.2.2.2.1, hI.2.2.2.2.2.2.2.2.2.2.2.2.2.2.2.2.2.1, hI.2.2.2.2.2.2.2.2.2.2.2.2.2.2.2.2.2.2.1, hI.2.2.2.2.2.2.2.2.2.2.2.2.2.2.2.2.2.2.2.1, hI.2.2.2.2.2.2.2.2.2.2.2.2.2.2.2.2.2.2.2.2.1, hI.2.2.2.2.2.2.2.2.2.2.2.2.2.2.2.2.2.2.2.2.2.1, hI.2.2.2.2.2.2.2.2.2.2.2.2.2.2.2.2.2.2.2.2.2.2.1, hI.2.2.2.2.2.2.2.2.2.2.2.2.2.2.2.2.2.2.2.2.2.2.2.1, hI.2.2.2.2.2.2.2.2.2.2.2.2.2.2.2.2.2.2.2.2.2.2.2.2.1, hI.2.2.2.2.2.2.2.2.2.2.2.2.2.2.2.2.2.2.2.2.2.2.2.2.2.1, gz6, hI.2.2.2.2.2.2.2.2.2.2.2.2.2.2.2.2.2.2.2.2.2.2.2.2.2.2.2.1, hI.2.2.2.2.2.2.2.2.2.2.2.2.2.2.2.2.2.2.2.2.2.2.2.2.2.2.2.2⟩, congrArg (mt_judged mi fm) hE, hP1, hD1⟩, hF⟩
  · exact fun q h => h
noncomputable def mt_taken (mi : Nat → Int32) (fm : Nat → Nat → Int32) (o : Int32 × Int32 × Int32 × (Nat → Int32) × (Nat → Int32) × (Nat → Int32) × (Nat → Int32) × (Nat → Int32) × (Nat → Int32)) : Int32 × (Nat → Int32) × (Nat → Nat → Int32) := (o.1, (upd (upd mi 37 o.2.1) 41 o.2.2.1), (updF (updF (updF (updF (updF (updF fm 14 o.2.2.2.1) 15 o.2.2.2.2.1) 16 o.2.2.2.2.2.1) 17 o.2.2.2.2.2.2.1) 18 o.2.2.2.2.2.2.2.1) 19 o.2.2.2.2.2.2.2.2))
noncomputable def ms_taken (mi : Nat → Int32) (fm : Nat → Nat → Int32) (p1 : Int32) : Int32 × (Nat → Int32) × (Nat → Nat → Int32) := mt_taken mi fm (fX12_taken mi (fm 14) (fm 15) (fm 16) (fm 17) (fm 18) (fm 19) (fm 4) (fm 7) (fm 2) (fm 5) (fm 6) (fm 3) (fm 0) (fm 1) p1)
set_option maxHeartbeats 4000000 in
set_option maxRecDepth 100000 in
theorem uX12_taken (l : Launch) (dC : Nat → ClassId) (dI : Nat → Nat → Nat) (sz : Nat) (hm : Nat) (mi : Nat → Int32) (mr : Nat → Nat) (km : Nat → ClassId) (fm : Nat → Nat → Int32) (hI : MI mi fm) (p1 : Int32) : Met l yX12_taken (.code yX12_taken cX12_taken 2 (some .int) :: wsGB) ({ frames := 5, cells := 0, slots := 0, locals := 119 }) (va_Pc [.ref hm, .int p1] (fun U => U.heap.size = sz ∧ va_P (dC, dI) vwCl (MW hm mi mr km fm) U.heap ∧ va_K (dC, dI) vwCl (MT km) U ∧ va_D (fun _ => True) (MW hm mi mr km fm))) (va_Qi (fun (r : Int32) (u : Int32) => r = u) (fun r t => MB dC dI hm mi mr km fm sz (fun v f => (r, v, f) = ms_taken mi fm p1) t) (va_A (MW hm mi mr km fm) sz)) 0 0 (va_A (MW hm mi mr km fm) sz) := by
  refine gz_mono (sX12_taken l dC dI sz hm mi mr km (fm 14) (fm 15) (fm 16) (fm 17) (fm 18) (fm 19) (fm 4) (fm 7) (fm 2) (fm 5) (fm 6) (fm 3) (fm 0) (fm 1) (fm 8) (fm 9) (fm 10) (fm 11) (fm 12) (fm 13) (fm 20) (fm 21) (fm 22) (fm 23) p1 hI.1 hI.2.1 hI.2.2.1 hI.2.2.2.1 hI.2.2.2.2.1 hI.2.2.2.2.2.1 hI.2.2.2.2.2.2.1 hI.2.2.2.2.2.2.2.1 hI.2.2.2.2.2.2.2.2.1 hI.2.2.2.2.2.2.2.2.2.1 hI.2.2.2.2.2.2.2.2.2.2.1 hI.2.2.2.2.2.2.2.2.2.2.2.1 hI.2.2.2.2.2.2.2.2.2.2.2.2.2.1 hI.2.2.2.2.2.2.2.2.2.2.2.2.2.2.1 hI.2.2.2.2.2.2.2.2.2.2.2.2.2.2.2.1 hI.2.2.2.2.2.2.2.2.2.2.2.2.2.2.2.2.1 hI.2.2.2.2.2.2.2.2.2.2.2.2.2.2.2.2.2.1 hI.2.2.2.2.2.2.2.2.2.2.2.2.2.2.2.2.2.2.1 hI.2.2.2.2.2.2.2.2.2.2.2.2.2.2.2.2.2.2.2.2.2.2.2.2.2.2.1 hI.2.2.2.2.2.2.2.2.2.2.2.2.2.2.2.2.2.2.2.2.1 hI.2.2.2.2.2.2.2.2.2.2.2.2.2.2.2.2.2.2.2.2.2.2.2.1 hI.2.2.2.2.2.2.2.2.2.2.2.2.2.2.2.2.2.2.2.1 hI.2.2.2.2.2.2.2.2.2.2.2.2.2.2.2.2.2.2.2.2.2.1 hI.2.2.2.2.2.2.2.2.2.2.2.2.2.2.2.2.2.2.2.2.2.2.1) ?_ ?_ ?_
  · rintro args s ⟨rfl, hsz, hP, hK, hD⟩
    exact ⟨rfl, hsz, hP, hK, hD⟩
  · rintro args s o t ⟨rfl, hsz, hP, hK, hD⟩ ⟨⟨r, u, ho, hw, hB⟩, hF⟩
    obtain ⟨w0_37, w0_41, z1, z2, z3, z4, z5, z6, hB⟩ := hB
    obtain ⟨gw0_37, gw0_41, gz6, hE, hP1, hD1⟩ := hB
    obtain ⟨hu9, hw⟩ := hw
    subst hu9
    subst hsz
    exact ⟨⟨r, r, ho, rfl, (upd (upd mi 37 w0_37) 41 w0_41), (updF (updF (updF (updF (updF (updF fm 14 z1) 15 z2) 16 z3) 17 z4) 18 z5) 19 z6), ⟨hI.1, hI.2.1, hI.2.2.1, hI.2.2.2.1, hI.2.2.2.2.1, hI.2.2.2.2.2.1, hI.2.2.2.2.2.2.1, hI.2.2.2.2.2.2.2.1, hI.2.2.2.2.2.2.2.2.1, hI.2.2.2.2.2.2.2.2.2.1, hI.2.2.2.2.2.2.2.2.2.2.1, hI.2.2.2.2.2.2.2.2.2.2.2.1, hI.2.2.2.2.2.2.2.2.2.2.2.2.1, hI.2.2.2.2.2.2.2.2.2.2.2.2.2.1, gw0_37, gw0_41, hI.2.2.2.2.2.2.2.2.2.2.2.2.2.2.2.2.1, hI.2.2.2.2.2.2.2.2.2.2.2.2.2.2.2.2.2.1, hI.2.2.2.2.2.2.2.2.2.2.2.2.2.2.2.2.2.2.1, hI.2.2.2.2.2.2.2.2.2.2.2.2.2.2.2.2.2.2.2.1, hI.2.2.2.2.2.2.2.2.2.2.2.2.2.2.2.2.2.2.2.2.1, hI.2.2.2.2.2.2.2.2.2.2.2.2.2.2.2.2.2.2.2.2.2.1, hI.2.2.2.2.2.2.2.2.2.2.2.2.2.2.2.2.2.2.2.2.2.2.1, hI.2.2.2.2.2.2.2.2.2.2.2.2.2.2.2.2.2.2.2.2.2.2.2.1, hI.2.2.2.2.2.2.2.2.2.2.2.2.2.2.2.2.2.2.2.2.2.2.2.2.1, hI.2.2.2.2.2.2.2.2.2.2.2.2.2.2.2.2.2.2.2.2.2.2.2.2.2.1, gz6, hI.2.2.2.2.2.2.2.2.2.2.2.2.2.2.2.2.2.2.2.2.2.2.2.2.2.2.2.1, hI.2.2.2.2.2.2.2.2.2.2.2.2.2.2.2.2.2.2.2.2.2.2.2.2.2.2.2.2⟩, congrArg (mt_taken mi fm) hE, hP1, hD1⟩, hF⟩
  · exact fun q h => h
noncomputable def mt_order (mi : Nat → Int32) (fm : Nat → Nat → Int32) (o : Int32 × Int32 × (Nat → Int32) × (Nat → Int32)) : Int32 × (Nat → Int32) × (Nat → Nat → Int32) := (o.1, (upd mi 41 o.2.1), (updF (updF fm 18 o.2.2.1) 19 o.2.2.2))
noncomputable def ms_order (mi : Nat → Int32) (fm : Nat → Nat → Int32) (p1 : Int32) (p2 : Int32) : Int32 × (Nat → Int32) × (Nat → Nat → Int32) := mt_order mi fm (fX12_order mi (fm 18) (fm 19) (fm 4) (fm 7) (fm 2) (fm 5) (fm 6) (fm 3) (fm 0) (fm 1) p1 p2)
set_option maxHeartbeats 4000000 in
set_option maxRecDepth 100000 in
theorem uX12_order (l : Launch) (dC : Nat → ClassId) (dI : Nat → Nat → Nat) (sz : Nat) (hm : Nat) (mi : Nat → Int32) (mr : Nat → Nat) (km : Nat → ClassId) (fm : Nat → Nat → Int32) (hI : MI mi fm) (p1 : Int32) (p2 : Int32) : Met l yX12_order (.code yX12_order cX12_order 3 (some .int) :: wsGB) ({ frames := 3, cells := 0, slots := 0, locals := 72 }) (va_Pc [.ref hm, .int p1, .int p2] (fun U => U.heap.size = sz ∧ va_P (dC, dI) vwCl (MW hm mi mr km fm) U.heap ∧ va_K (dC, dI) vwCl (MT km) U ∧ va_D (fun _ => True) (MW hm mi mr km fm))) (va_Qi (fun (r : Int32) (u : Int32) => r = u) (fun r t => MB dC dI hm mi mr km fm sz (fun v f => (r, v, f) = ms_order mi fm p1 p2) t) (va_A (MW hm mi mr km fm) sz)) 0 0 (va_A (MW hm mi mr km fm) sz) := by
  refine gz_mono (sX12_order l dC dI sz hm mi mr km (fm 14) (fm 15) (fm 16) (fm 17) (fm 18) (fm 19) (fm 4) (fm 7) (fm 2) (fm 5) (fm 6) (fm 3) (fm 0) (fm 1) (fm 8) (fm 9) (fm 10) (fm 11) (fm 12) (fm 13) (fm 20) (fm 21) (fm 22) (fm 23) p1 p2 hI.1 hI.2.1 hI.2.2.1 hI.2.2.2.1 hI.2.2.2.2.1 hI.2.2.2.2.2.1 hI.2.2.2.2.2.2.1 hI.2.2.2.2.2.2.2.1 hI.2.2.2.2.2.2.2.2.1 hI.2.2.2.2.2.2.2.2.2.1 hI.2.2.2.2.2.2.2.2.2.2.1 hI.2.2.2.2.2.2.2.2.2.2.2.1 hI.2.2.2.2.2.2.2.2.2.2.2.2.2.1 hI.2.2.2.2.2.2.2.2.2.2.2.2.2.2.1 hI.2.2.2.2.2.2.2.2.2.2.2.2.2.2.2.1 hI.2.2.2.2.2.2.2.2.2.2.2.2.2.2.2.2.1 hI.2.2.2.2.2.2.2.2.2.2.2.2.2.2.2.2.2.1 hI.2.2.2.2.2.2.2.2.2.2.2.2.2.2.2.2.2.2.1 hI.2.2.2.2.2.2.2.2.2.2.2.2.2.2.2.2.2.2.2.2.2.2.2.2.2.2.1 hI.2.2.2.2.2.2.2.2.2.2.2.2.2.2.2.2.2.2.2.2.1 hI.2.2.2.2.2.2.2.2.2.2.2.2.2.2.2.2.2.2.2.2.2.2.2.1 hI.2.2.2.2.2.2.2.2.2.2.2.2.2.2.2.2.2.2.2.1 hI.2.2.2.2.2.2.2.2.2.2.2.2.2.2.2.2.2.2.2.2.2.1 hI.2.2.2.2.2.2.2.2.2.2.2.2.2.2.2.2.2.2.2.2.2.2.1) ?_ ?_ ?_
  · rintro args s ⟨rfl, hsz, hP, hK, hD⟩
    exact ⟨rfl, hsz, hP, hK, hD⟩
  · rintro args s o t ⟨rfl, hsz, hP, hK, hD⟩ ⟨⟨r, u, ho, hw, hB⟩, hF⟩
    obtain ⟨w0_41, z5, z6, hB⟩ := hB
    obtain ⟨gw0_41, gz6, hE, hP1, hD1⟩ := hB
    obtain ⟨hu9, hw⟩ := hw
    subst hu9
    subst hsz
    exact ⟨⟨r, r, ho, rfl, (upd mi 41 w0_41), (updF (updF fm 18 z5) 19 z6), ⟨hI.1, hI.2.1, hI.2.2.1, hI.2.2.2.1, hI.2.2.2.2.1, hI.2.2.2.2.2.1, hI.2.2.2.2.2.2.1, hI.2.2.2.2.2.2.2.1, hI.2.2.2.2.2.2.2.2.1, hI.2.2.2.2.2.2.2.2.2.1, hI.2.2.2.2.2.2.2.2.2.2.1, hI.2.2.2.2.2.2.2.2.2.2.2.1, hI.2.2.2.2.2.2.2.2.2.2.2.2.1, hI.2.2.2.2.2.2.2.2.2.2.2.2.2.1, hI.2.2.2.2.2.2.2.2.2.2.2.2.2.2.1, gw0_41, hI.2.2.2.2.2.2.2.2.2.2.2.2.2.2.2.2.1, hI.2.2.2.2.2.2.2.2.2.2.2.2.2.2.2.2.2.1, hI.2.2.2.2.2.2.2.2.2.2.2.2.2.2.2.2.2.2.1, hI.2.2.2.2.2.2.2.2.2.2.2.2.2.2.2.2.2.2.2.1, hI.2.2.2.2.2.2.2.2.2.2.2.2.2.2.2.2.2.2.2.2.1, hI.2.2.2.2.2.2.2.2.2.2.2.2.2.2.2.2.2.2.2.2.2.1, hI.2.2.2.2.2.2.2.2.2.2.2.2.2.2.2.2.2.2.2.2.2.2.1, hI.2.2.2.2.2.2.2.2.2.2.2.2.2.2.2.2.2.2.2.2.2.2.2.1, hI.2.2.2.2.2.2.2.2.2.2.2.2.2.2.2.2.2.2.2.2.2.2.2.2.1, hI.2.2.2.2.2.2.2.2.2.2.2.2.2.2.2.2.2.2.2.2.2.2.2.2.2.1, gz6, hI.2.2.2.2.2.2.2.2.2.2.2.2.2.2.2.2.2.2.2.2.2.2.2.2.2.2.2.1, hI.2.2.2.2.2.2.2.2.2.2.2.2.2.2.2.2.2.2.2.2.2.2.2.2.2.2.2.2⟩, congrArg (mt_order mi fm) hE, hP1, hD1⟩, hF⟩
  · exact fun q h => h
noncomputable def mt_against (mi : Nat → Int32) (fm : Nat → Nat → Int32) (o : Int32 × Int32 × Int32 × (Nat → Int32) × (Nat → Int32) × (Nat → Int32) × (Nat → Int32) × (Nat → Int32) × (Nat → Int32)) : Int32 × (Nat → Int32) × (Nat → Nat → Int32) := (o.1, (upd (upd mi 37 o.2.1) 41 o.2.2.1), (updF (updF (updF (updF (updF (updF fm 14 o.2.2.2.1) 15 o.2.2.2.2.1) 16 o.2.2.2.2.2.1) 17 o.2.2.2.2.2.2.1) 18 o.2.2.2.2.2.2.2.1) 19 o.2.2.2.2.2.2.2.2))
noncomputable def ms_against (mi : Nat → Int32) (fm : Nat → Nat → Int32) (p1 : Int32) (p2 : Int32) : Int32 × (Nat → Int32) × (Nat → Nat → Int32) := mt_against mi fm (fX12_against mi (fm 14) (fm 15) (fm 16) (fm 17) (fm 18) (fm 19) (fm 4) (fm 7) (fm 2) (fm 5) (fm 6) (fm 3) (fm 0) (fm 1) p1 p2)
set_option maxHeartbeats 4000000 in
set_option maxRecDepth 100000 in
theorem uX12_against (l : Launch) (dC : Nat → ClassId) (dI : Nat → Nat → Nat) (sz : Nat) (hm : Nat) (mi : Nat → Int32) (mr : Nat → Nat) (km : Nat → ClassId) (fm : Nat → Nat → Int32) (hI : MI mi fm) (p1 : Int32) (p2 : Int32) : Met l yX12_against (.code yX12_against cX12_against 5 (some .int) :: wsGB) ({ frames := 5, cells := 0, slots := 0, locals := 119 }) (va_Pc [.ref hm, .int p1, .int p2] (fun U => U.heap.size = sz ∧ va_P (dC, dI) vwCl (MW hm mi mr km fm) U.heap ∧ va_K (dC, dI) vwCl (MT km) U ∧ va_D (fun _ => True) (MW hm mi mr km fm))) (va_Qi (fun (r : Int32) (u : Int32) => r = u) (fun r t => MB dC dI hm mi mr km fm sz (fun v f => (r, v, f) = ms_against mi fm p1 p2) t) (va_A (MW hm mi mr km fm) sz)) 0 0 (va_A (MW hm mi mr km fm) sz) := by
  refine gz_mono (sX12_against l dC dI sz hm mi mr km (fm 14) (fm 15) (fm 16) (fm 17) (fm 18) (fm 19) (fm 4) (fm 7) (fm 2) (fm 5) (fm 6) (fm 3) (fm 0) (fm 1) (fm 8) (fm 9) (fm 10) (fm 11) (fm 12) (fm 13) (fm 20) (fm 21) (fm 22) (fm 23) p1 p2 hI.1 hI.2.1 hI.2.2.1 hI.2.2.2.1 hI.2.2.2.2.1 hI.2.2.2.2.2.1 hI.2.2.2.2.2.2.1 hI.2.2.2.2.2.2.2.1 hI.2.2.2.2.2.2.2.2.1 hI.2.2.2.2.2.2.2.2.2.1 hI.2.2.2.2.2.2.2.2.2.2.1 hI.2.2.2.2.2.2.2.2.2.2.2.1 hI.2.2.2.2.2.2.2.2.2.2.2.2.2.1 hI.2.2.2.2.2.2.2.2.2.2.2.2.2.2.1 hI.2.2.2.2.2.2.2.2.2.2.2.2.2.2.2.1 hI.2.2.2.2.2.2.2.2.2.2.2.2.2.2.2.2.1 hI.2.2.2.2.2.2.2.2.2.2.2.2.2.2.2.2.2.1 hI.2.2.2.2.2.2.2.2.2.2.2.2.2.2.2.2.2.2.1 hI.2.2.2.2.2.2.2.2.2.2.2.2.2.2.2.2.2.2.2.2.2.2.2.2.2.2.1 hI.2.2.2.2.2.2.2.2.2.2.2.2.2.2.2.2.2.2.2.2.1 hI.2.2.2.2.2.2.2.2.2.2.2.2.2.2.2.2.2.2.2.2.2.2.2.1 hI.2.2.2.2.2.2.2.2.2.2.2.2.2.2.2.2.2.2.2.1 hI.2.2.2.2.2.2.2.2.2.2.2.2.2.2.2.2.2.2.2.2.2.1 hI.2.2.2.2.2.2.2.2.2.2.2.2.2.2.2.2.2.2.2.2.2.2.1) ?_ ?_ ?_
  · rintro args s ⟨rfl, hsz, hP, hK, hD⟩
    exact ⟨rfl, hsz, hP, hK, hD⟩
  · rintro args s o t ⟨rfl, hsz, hP, hK, hD⟩ ⟨⟨r, u, ho, hw, hB⟩, hF⟩
    obtain ⟨w0_37, w0_41, z1, z2, z3, z4, z5, z6, hB⟩ := hB
    obtain ⟨gw0_37, gw0_41, gz6, hE, hP1, hD1⟩ := hB
    obtain ⟨hu9, hw⟩ := hw
    subst hu9
    subst hsz
    exact ⟨⟨r, r, ho, rfl, (upd (upd mi 37 w0_37) 41 w0_41), (updF (updF (updF (updF (updF (updF fm 14 z1) 15 z2) 16 z3) 17 z4) 18 z5) 19 z6), ⟨hI.1, hI.2.1, hI.2.2.1, hI.2.2.2.1, hI.2.2.2.2.1, hI.2.2.2.2.2.1, hI.2.2.2.2.2.2.1, hI.2.2.2.2.2.2.2.1, hI.2.2.2.2.2.2.2.2.1, hI.2.2.2.2.2.2.2.2.2.1, hI.2.2.2.2.2.2.2.2.2.2.1, hI.2.2.2.2.2.2.2.2.2.2.2.1, hI.2.2.2.2.2.2.2.2.2.2.2.2.1, hI.2.2.2.2.2.2.2.2.2.2.2.2.2.1, gw0_37, gw0_41, hI.2.2.2.2.2.2.2.2.2.2.2.2.2.2.2.2.1, hI.2.2.2.2.2.2.2.2.2.2.2.2.2.2.2.2.2.1, hI.2.2.2.2.2.2.2.2.2.2.2.2.2.2.2.2.2.2.1, hI.2.2.2.2.2.2.2.2.2.2.2.2.2.2.2.2.2.2.2.1, hI.2.2.2.2.2.2.2.2.2.2.2.2.2.2.2.2.2.2.2.2.1, hI.2.2.2.2.2.2.2.2.2.2.2.2.2.2.2.2.2.2.2.2.2.1, hI.2.2.2.2.2.2.2.2.2.2.2.2.2.2.2.2.2.2.2.2.2.2.1, hI.2.2.2.2.2.2.2.2.2.2.2.2.2.2.2.2.2.2.2.2.2.2.2.1, hI.2.2.2.2.2.2.2.2.2.2.2.2.2.2.2.2.2.2.2.2.2.2.2.2.1, hI.2.2.2.2.2.2.2.2.2.2.2.2.2.2.2.2.2.2.2.2.2.2.2.2.2.1, gz6, hI.2.2.2.2.2.2.2.2.2.2.2.2.2.2.2.2.2.2.2.2.2.2.2.2.2.2.2.1, hI.2.2.2.2.2.2.2.2.2.2.2.2.2.2.2.2.2.2.2.2.2.2.2.2.2.2.2.2⟩, congrArg (mt_against mi fm) hE, hP1, hD1⟩, hF⟩
  · exact fun q h => h
noncomputable def mt_blind (mi : Nat → Int32) (fm : Nat → Nat → Int32) (o : Int32) : Int32 × (Nat → Int32) × (Nat → Nat → Int32) := (o, mi, fm)
noncomputable def ms_blind (mi : Nat → Int32) (fm : Nat → Nat → Int32) (p1 : Int32) (p2 : Int32) : Int32 × (Nat → Int32) × (Nat → Nat → Int32) := mt_blind mi fm (fX12_blind mi (fm 4) (fm 7) (fm 5) (fm 3) p1 p2)
set_option maxHeartbeats 4000000 in
set_option maxRecDepth 100000 in
theorem uX12_blind (l : Launch) (dC : Nat → ClassId) (dI : Nat → Nat → Nat) (sz : Nat) (hm : Nat) (mi : Nat → Int32) (mr : Nat → Nat) (km : Nat → ClassId) (fm : Nat → Nat → Int32) (hI : MI mi fm) (p1 : Int32) (p2 : Int32) : Met l yX12_blind (.code yX12_blind cX12_blind 5 (some .int) :: wsGB) ({ frames := 2, cells := 0, slots := 0, locals := 46 }) (va_Pc [.ref hm, .int p1, .int p2] (fun U => U.heap.size = sz ∧ va_P (dC, dI) vwCl (MW hm mi mr km fm) U.heap ∧ va_K (dC, dI) vwCl (MT km) U ∧ va_D (fun _ => True) (MW hm mi mr km fm))) (va_Qi (fun (r : Int32) (u : Int32) => r = u) (fun r t => MB dC dI hm mi mr km fm sz (fun v f => (r, v, f) = ms_blind mi fm p1 p2) t) (va_A (MW hm mi mr km fm) sz)) 0 0 (va_A (MW hm mi mr km fm) sz) := by
  refine gz_mono (sX12_blind l dC dI hm mi mr km (fm 14) (fm 15) (fm 16) (fm 17) (fm 18) (fm 19) (fm 4) (fm 7) (fm 2) (fm 5) (fm 6) (fm 3) (fm 0) (fm 1) (fm 8) (fm 9) (fm 10) (fm 11) (fm 12) (fm 13) (fm 20) (fm 21) (fm 22) (fm 23) p1 p2 hI.1 hI.2.1 hI.2.2.1 hI.2.2.2.1 hI.2.2.2.2.1 hI.2.2.2.2.2.1 hI.2.2.2.2.2.2.1 hI.2.2.2.2.2.2.2.1 hI.2.2.2.2.2.2.2.2.1 hI.2.2.2.2.2.2.2.2.2.1 hI.2.2.2.2.2.2.2.2.2.2.1 hI.2.2.2.2.2.2.2.2.2.2.2.1 hI.2.2.2.2.2.2.2.2.2.2.2.2.2.1 hI.2.2.2.2.2.2.2.2.2.2.2.2.2.2.1 hI.2.2.2.2.2.2.2.2.2.2.2.2.2.2.2.1 hI.2.2.2.2.2.2.2.2.2.2.2.2.2.2.2.2.1 hI.2.2.2.2.2.2.2.2.2.2.2.2.2.2.2.2.2.1 hI.2.2.2.2.2.2.2.2.2.2.2.2.2.2.2.2.2.2.1 hI.2.2.2.2.2.2.2.2.2.2.2.2.2.2.2.2.2.2.2.2.2.2.2.2.2.2.1 hI.2.2.2.2.2.2.2.2.2.2.2.2.2.2.2.2.2.2.2.2.1 hI.2.2.2.2.2.2.2.2.2.2.2.2.2.2.2.2.2.2.2.2.2.2.2.1 hI.2.2.2.2.2.2.2.2.2.2.2.2.2.2.2.2.2.2.2.1 hI.2.2.2.2.2.2.2.2.2.2.2.2.2.2.2.2.2.2.2.2.2.1 hI.2.2.2.2.2.2.2.2.2.2.2.2.2.2.2.2.2.2.2.2.2.2.1) ?_ ?_ ?_
  · rintro args s ⟨rfl, hsz, hP, hK, hD⟩
    exact ⟨rfl, hP, hK⟩
  · rintro args s o t ⟨rfl, hsz, hP, hK, hD⟩ ⟨⟨r, u, ho, hw, hB⟩, hF⟩
    subst hsz
    exact ⟨⟨r, r, ho, rfl, mi, fm, hI, congrArg (mt_blind mi fm) hw.2, gz_keep hP hF.2, hD.self⟩, hF.1, fun q h1 h2 => hF.2 q h1 (fun h => h.elim)⟩
  · exact fun q h => h.elim
noncomputable def mt_ways (mi : Nat → Int32) (fm : Nat → Nat → Int32) (o : Int32 × Int32 × Int32 × (Nat → Int32) × (Nat → Int32) × (Nat → Int32) × (Nat → Int32) × (Nat → Int32) × (Nat → Int32)) : Int32 × (Nat → Int32) × (Nat → Nat → Int32) := (o.1, (upd (upd mi 37 o.2.1) 41 o.2.2.1), (updF (updF (updF (updF (updF (updF fm 14 o.2.2.2.1) 15 o.2.2.2.2.1) 16 o.2.2.2.2.2.1) 17 o.2.2.2.2.2.2.1) 18 o.2.2.2.2.2.2.2.1) 19 o.2.2.2.2.2.2.2.2))
noncomputable def ms_ways (mi : Nat → Int32) (fm : Nat → Nat → Int32) (p1 : Int32) : Int32 × (Nat → Int32) × (Nat → Nat → Int32) := mt_ways mi fm (fX12_ways mi (fm 14) (fm 15) (fm 16) (fm 17) (fm 18) (fm 19) (fm 4) (fm 7) (fm 2) (fm 5) (fm 6) (fm 3) (fm 0) (fm 1) p1)
set_option maxHeartbeats 4000000 in
set_option maxRecDepth 100000 in
theorem uX12_ways (l : Launch) (dC : Nat → ClassId) (dI : Nat → Nat → Nat) (sz : Nat) (hm : Nat) (mi : Nat → Int32) (mr : Nat → Nat) (km : Nat → ClassId) (fm : Nat → Nat → Int32) (hI : MI mi fm) (p1 : Int32) : Met l yX12_ways (.code yX12_ways cX12_ways 2 (some .int) :: wsGB) ({ frames := 5, cells := 0, slots := 0, locals := 119 }) (va_Pc [.ref hm, .int p1] (fun U => U.heap.size = sz ∧ va_P (dC, dI) vwCl (MW hm mi mr km fm) U.heap ∧ va_K (dC, dI) vwCl (MT km) U ∧ va_D (fun _ => True) (MW hm mi mr km fm))) (va_Qi (fun (r : Int32) (u : Int32) => r = u) (fun r t => MB dC dI hm mi mr km fm sz (fun v f => (r, v, f) = ms_ways mi fm p1) t) (va_A (MW hm mi mr km fm) sz)) 0 0 (va_A (MW hm mi mr km fm) sz) := by
  refine gz_mono (sX12_ways l dC dI sz hm mi mr km (fm 14) (fm 15) (fm 16) (fm 17) (fm 18) (fm 19) (fm 4) (fm 7) (fm 2) (fm 5) (fm 6) (fm 3) (fm 0) (fm 1) (fm 8) (fm 9) (fm 10) (fm 11) (fm 12) (fm 13) (fm 20) (fm 21) (fm 22) (fm 23) p1 hI.1 hI.2.1 hI.2.2.1 hI.2.2.2.1 hI.2.2.2.2.1 hI.2.2.2.2.2.1 hI.2.2.2.2.2.2.1 hI.2.2.2.2.2.2.2.1 hI.2.2.2.2.2.2.2.2.1 hI.2.2.2.2.2.2.2.2.2.1 hI.2.2.2.2.2.2.2.2.2.2.1 hI.2.2.2.2.2.2.2.2.2.2.2.1 hI.2.2.2.2.2.2.2.2.2.2.2.2.2.1 hI.2.2.2.2.2.2.2.2.2.2.2.2.2.2.1 hI.2.2.2.2.2.2.2.2.2.2.2.2.2.2.2.1 hI.2.2.2.2.2.2.2.2.2.2.2.2.2.2.2.2.1 hI.2.2.2.2.2.2.2.2.2.2.2.2.2.2.2.2.2.1 hI.2.2.2.2.2.2.2.2.2.2.2.2.2.2.2.2.2.2.1 hI.2.2.2.2.2.2.2.2.2.2.2.2.2.2.2.2.2.2.2.2.2.2.2.2.2.2.1 hI.2.2.2.2.2.2.2.2.2.2.2.2.2.2.2.2.2.2.2.2.1 hI.2.2.2.2.2.2.2.2.2.2.2.2.2.2.2.2.2.2.2.2.2.2.2.1 hI.2.2.2.2.2.2.2.2.2.2.2.2.2.2.2.2.2.2.2.1 hI.2.2.2.2.2.2.2.2.2.2.2.2.2.2.2.2.2.2.2.2.2.1 hI.2.2.2.2.2.2.2.2.2.2.2.2.2.2.2.2.2.2.2.2.2.2.1) ?_ ?_ ?_
  · rintro args s ⟨rfl, hsz, hP, hK, hD⟩
    exact ⟨rfl, hsz, hP, hK, hD⟩
  · rintro args s o t ⟨rfl, hsz, hP, hK, hD⟩ ⟨⟨r, u, ho, hw, hB⟩, hF⟩
    obtain ⟨w0_37, w0_41, z1, z2, z3, z4, z5, z6, hB⟩ := hB
    obtain ⟨gw0_37, gw0_41, gz6, hE, hP1, hD1⟩ := hB
    obtain ⟨hu9, hw⟩ := hw
    subst hu9
    subst hsz
    exact ⟨⟨r, r, ho, rfl, (upd (upd mi 37 w0_37) 41 w0_41), (updF (updF (updF (updF (updF (updF fm 14 z1) 15 z2) 16 z3) 17 z4) 18 z5) 19 z6), ⟨hI.1, hI.2.1, hI.2.2.1, hI.2.2.2.1, hI.2.2.2.2.1, hI.2.2.2.2.2.1, hI.2.2.2.2.2.2.1, hI.2.2.2.2.2.2.2.1, hI.2.2.2.2.2.2.2.2.1, hI.2.2.2.2.2.2.2.2.2.1, hI.2.2.2.2.2.2.2.2.2.2.1, hI.2.2.2.2.2.2.2.2.2.2.2.1, hI.2.2.2.2.2.2.2.2.2.2.2.2.1, hI.2.2.2.2.2.2.2.2.2.2.2.2.2.1, gw0_37, gw0_41, hI.2.2.2.2.2.2.2.2.2.2.2.2.2.2.2.2.1, hI.2.2.2.2.2.2.2.2.2.2.2.2.2.2.2.2.2.1, hI.2.2.2.2.2.2.2.2.2.2.2.2.2.2.2.2.2.2.1, hI.2.2.2.2.2.2.2.2.2.2.2.2.2.2.2.2.2.2.2.1, hI.2.2.2.2.2.2.2.2.2.2.2.2.2.2.2.2.2.2.2.2.1, hI.2.2.2.2.2.2.2.2.2.2.2.2.2.2.2.2.2.2.2.2.2.1, hI.2.2.2.2.2.2.2.2.2.2.2.2.2.2.2.2.2.2.2.2.2.2.1, hI.2.2.2.2.2.2.2.2.2.2.2.2.2.2.2.2.2.2.2.2.2.2.2.1, hI.2.2.2.2.2.2.2.2.2.2.2.2.2.2.2.2.2.2.2.2.2.2.2.2.1, hI.2.2.2.2.2.2.2.2.2.2.2.2.2.2.2.2.2.2.2.2.2.2.2.2.2.1, gz6, hI.2.2.2.2.2.2.2.2.2.2.2.2.2.2.2.2.2.2.2.2.2.2.2.2.2.2.2.1, hI.2.2.2.2.2.2.2.2.2.2.2.2.2.2.2.2.2.2.2.2.2.2.2.2.2.2.2.2⟩, congrArg (mt_ways mi fm) hE, hP1, hD1⟩, hF⟩
  · exact fun q h => h
noncomputable def mt_begin (mi : Nat → Int32) (fm : Nat → Nat → Int32) (o : Int32 × Int32 × Int32 × (Nat → Int32) × (Nat → Int32) × (Nat → Int32) × (Nat → Int32) × (Nat → Int32) × (Nat → Int32) × (Nat → Int32)) : Int32 × (Nat → Int32) × (Nat → Nat → Int32) := (o.1, (upd (upd mi 37 o.2.1) 41 o.2.2.1), (updF (updF (updF (updF (updF (updF (updF fm 14 o.2.2.2.1) 15 o.2.2.2.2.1) 16 o.2.2.2.2.2.1) 17 o.2.2.2.2.2.2.1) 18 o.2.2.2.2.2.2.2.1) 19 o.2.2.2.2.2.2.2.2.1) 20 o.2.2.2.2.2.2.2.2.2))
noncomputable def ms_begin (mi : Nat → Int32) (fm : Nat → Nat → Int32) (p1 : Int32) (p2 : Int32) : Int32 × (Nat → Int32) × (Nat → Nat → Int32) := mt_begin mi fm (fX12_begin mi (fm 14) (fm 15) (fm 16) (fm 17) (fm 18) (fm 19) (fm 4) (fm 7) (fm 2) (fm 5) (fm 6) (fm 3) (fm 0) (fm 1) (fm 20) p1 p2)
set_option maxHeartbeats 4000000 in
set_option maxRecDepth 100000 in
theorem uX12_begin (l : Launch) (dC : Nat → ClassId) (dI : Nat → Nat → Nat) (sz : Nat) (hm : Nat) (mi : Nat → Int32) (mr : Nat → Nat) (km : Nat → ClassId) (fm : Nat → Nat → Int32) (hI : MI mi fm) (p1 : Int32) (p2 : Int32) : Met l yX12_begin (.code yX12_begin cX12_begin 3 (some .int) :: wsGB) ({ frames := 6, cells := 0, slots := 0, locals := 140 }) (va_Pc [.ref hm, .int p1, .int p2] (fun U => U.heap.size = sz ∧ va_P (dC, dI) vwCl (MW hm mi mr km fm) U.heap ∧ va_K (dC, dI) vwCl (MT km) U ∧ va_D (fun _ => True) (MW hm mi mr km fm))) (va_Qi (fun (r : Int32) (u : Int32) => r = u) (fun r t => MB dC dI hm mi mr km fm sz (fun v f => (r, v, f) = ms_begin mi fm p1 p2) t) (va_A (MW hm mi mr km fm) sz)) 0 0 (va_A (MW hm mi mr km fm) sz) := by
  refine gz_mono (sX12_begin l dC dI sz hm mi mr km (fm 14) (fm 15) (fm 16) (fm 17) (fm 18) (fm 19) (fm 4) (fm 7) (fm 2) (fm 5) (fm 6) (fm 3) (fm 0) (fm 1) (fm 20) (fm 8) (fm 9) (fm 10) (fm 11) (fm 12) (fm 13) (fm 21) (fm 22) (fm 23) p1 p2 hI.1 hI.2.1 hI.2.2.1 hI.2.2.2.1 hI.2.2.2.2.1 hI.2.2.2.2.2.1 hI.2.2.2.2.2.2.1 hI.2.2.2.2.2.2.2.1 hI.2.2.2.2.2.2.2.2.1 hI.2.2.2.2.2.2.2.2.2.1 hI.2.2.2.2.2.2.2.2.2.2.1 hI.2.2.2.2.2.2.2.2.2.2.2.1 hI.2.2.2.2.2.2.2.2.2.2.2.2.2.1 hI.2.2.2.2.2.2.2.2.2.2.2.2.2.2.1 hI.2.2.2.2.2.2.2.2.2.2.2.2.2.2.2.1 hI.2.2.2.2.2.2.2.2.2.2.2.2.2.2.2.2.1 hI.2.2.2.2.2.2.2.2.2.2.2.2.2.2.2.2.2.1 hI.2.2.2.2.2.2.2.2.2.2.2.2.2.2.2.2.2.2.1 hI.2.2.2.2.2.2.2.2.2.2.2.2.2.2.2.2.2.2.2.2.2.2.2.2.2.2.1 hI.2.2.2.2.2.2.2.2.2.2.2.2.2.2.2.2.2.2.2.2.1 hI.2.2.2.2.2.2.2.2.2.2.2.2.2.2.2.2.2.2.2.2.2.2.2.1 hI.2.2.2.2.2.2.2.2.2.2.2.2.2.2.2.2.2.2.2.1 hI.2.2.2.2.2.2.2.2.2.2.2.2.2.2.2.2.2.2.2.2.2.1 hI.2.2.2.2.2.2.2.2.2.2.2.2.2.2.2.2.2.2.2.2.2.2.1) ?_ ?_ ?_
  · rintro args s ⟨rfl, hsz, hP, hK, hD⟩
    exact ⟨rfl, hsz, hP, hK, hD⟩
  · rintro args s o t ⟨rfl, hsz, hP, hK, hD⟩ ⟨⟨r, u, ho, hw, hB⟩, hF⟩
    obtain ⟨w0_37, w0_41, z1, z2, z3, z4, z5, z6, z15, hB⟩ := hB
    obtain ⟨gw0_37, gw0_41, gz6, hE, hP1, hD1⟩ := hB
    obtain ⟨hu9, hw⟩ := hw
    subst hu9
    subst hsz
    exact ⟨⟨r, r, ho, rfl, (upd (upd mi 37 w0_37) 41 w0_41), (updF (updF (updF (updF (updF (updF (updF fm 14 z1) 15 z2) 16 z3) 17 z4) 18 z5) 19 z6) 20 z15), ⟨hI.1, hI.2.1, hI.2.2.1, hI.2.2.2.1, hI.2.2.2.2.1, hI.2.2.2.2.2.1, hI.2.2.2.2.2.2.1, hI.2.2.2.2.2.2.2.1, hI.2.2.2.2.2.2.2.2.1, hI.2.2.2.2.2.2.2.2.2.1, hI.2.2.2.2.2.2.2.2.2.2.1, hI.2.2.2.2.2.2.2.2.2.2.2.1, hI.2.2.2.2.2.2.2.2.2.2.2.2.1, hI.2.2.2.2.2.2.2.2.2.2.2.2.2.1, gw0_37, gw0_41, hI.2.2.2.2.2.2.2.2.2.2.2.2.2.2.2.2.1, hI.2.2.2.2.2.2.2.2.2.2.2.2.2.2.2.2.2.1, hI.2.2.2.2.2.2.2.2.2.2.2.2.2.2.2.2.2.2.1, hI.2.2.2.2.2.2.2.2.2.2.2.2.2.2.2.2.2.2.2.1, hI.2.2.2.2.2.2.2.2.2.2.2.2.2.2.2.2.2.2.2.2.1, hI.2.2.2.2.2.2.2.2.2.2.2.2.2.2.2.2.2.2.2.2.2.1, hI.2.2.2.2.2.2.2.2.2.2.2.2.2.2.2.2.2.2.2.2.2.2.1, hI.2.2.2.2.2.2.2.2.2.2.2.2.2.2.2.2.2.2.2.2.2.2.2.1, hI.2.2.2.2.2.2.2.2.2.2.2.2.2.2.2.2.2.2.2.2.2.2.2.2.1, hI.2.2.2.2.2.2.2.2.2.2.2.2.2.2.2.2.2.2.2.2.2.2.2.2.2.1, gz6, hI.2.2.2.2.2.2.2.2.2.2.2.2.2.2.2.2.2.2.2.2.2.2.2.2.2.2.2.1, hI.2.2.2.2.2.2.2.2.2.2.2.2.2.2.2.2.2.2.2.2.2.2.2.2.2.2.2.2⟩, congrArg (mt_begin mi fm) hE, hP1, hD1⟩, hF⟩
  · exact fun q h => h
noncomputable def mt_span (mi : Nat → Int32) (fm : Nat → Nat → Int32) (o : Int32 × Int32 × Int32 × (Nat → Int32) × (Nat → Int32) × (Nat → Int32) × (Nat → Int32) × (Nat → Int32) × (Nat → Int32)) : Int32 × (Nat → Int32) × (Nat → Nat → Int32) := (o.1, (upd (upd mi 37 o.2.1) 41 o.2.2.1), (updF (updF (updF (updF (updF (updF fm 14 o.2.2.2.1) 15 o.2.2.2.2.1) 16 o.2.2.2.2.2.1) 17 o.2.2.2.2.2.2.1) 18 o.2.2.2.2.2.2.2.1) 19 o.2.2.2.2.2.2.2.2))
noncomputable def ms_span (mi : Nat → Int32) (fm : Nat → Nat → Int32) (p1 : Int32) (p2 : Int32) (p3 : Int32) : Int32 × (Nat → Int32) × (Nat → Nat → Int32) := mt_span mi fm (fX12_span mi (fm 14) (fm 15) (fm 16) (fm 17) (fm 18) (fm 19) (fm 4) (fm 7) (fm 2) (fm 5) (fm 6) (fm 3) (fm 0) (fm 1) p1 p2 p3)
set_option maxHeartbeats 4000000 in
set_option maxRecDepth 100000 in
theorem uX12_span (l : Launch) (dC : Nat → ClassId) (dI : Nat → Nat → Nat) (sz : Nat) (hm : Nat) (mi : Nat → Int32) (mr : Nat → Nat) (km : Nat → ClassId) (fm : Nat → Nat → Int32) (hI : MI mi fm) (p1 : Int32) (p2 : Int32) (p3 : Int32) : Met l yX12_span (.code yX12_span cX12_span 4 (some .int) :: wsGB) ({ frames := 6, cells := 0, slots := 0, locals := 147 }) (va_Pc [.ref hm, .int p1, .int p2, .int p3] (fun U => U.heap.size = sz ∧ va_P (dC, dI) vwCl (MW hm mi mr km fm) U.heap ∧ va_K (dC, dI) vwCl (MT km) U ∧ va_D (fun _ => True) (MW hm mi mr km fm))) (va_Qi (fun (r : Int32) (u : Int32) => r = u) (fun r t => MB dC dI hm mi mr km fm sz (fun v f => (r, v, f) = ms_span mi fm p1 p2 p3) t) (va_A (MW hm mi mr km fm) sz)) 0 0 (va_A (MW hm mi mr km fm) sz) := by
  refine gz_mono (sX12_span l dC dI sz hm mi mr km (fm 14) (fm 15) (fm 16) (fm 17) (fm 18) (fm 19) (fm 4) (fm 7) (fm 2) (fm 5) (fm 6) (fm 3) (fm 0) (fm 1) (fm 8) (fm 9) (fm 10) (fm 11) (fm 12) (fm 13) (fm 20) (fm 21) (fm 22) (fm 23) p1 p2 p3 hI.1 hI.2.1 hI.2.2.1 hI.2.2.2.1 hI.2.2.2.2.1 hI.2.2.2.2.2.1 hI.2.2.2.2.2.2.1 hI.2.2.2.2.2.2.2.1 hI.2.2.2.2.2.2.2.2.1 hI.2.2.2.2.2.2.2.2.2.1 hI.2.2.2.2.2.2.2.2.2.2.1 hI.2.2.2.2.2.2.2.2.2.2.2.1 hI.2.2.2.2.2.2.2.2.2.2.2.2.2.1 hI.2.2.2.2.2.2.2.2.2.2.2.2.2.2.1 hI.2.2.2.2.2.2.2.2.2.2.2.2.2.2.2.1 hI.2.2.2.2.2.2.2.2.2.2.2.2.2.2.2.2.1 hI.2.2.2.2.2.2.2.2.2.2.2.2.2.2.2.2.2.1 hI.2.2.2.2.2.2.2.2.2.2.2.2.2.2.2.2.2.2.1 hI.2.2.2.2.2.2.2.2.2.2.2.2.2.2.2.2.2.2.2.2.2.2.2.2.2.2.1 hI.2.2.2.2.2.2.2.2.2.2.2.2.2.2.2.2.2.2.2.2.1 hI.2.2.2.2.2.2.2.2.2.2.2.2.2.2.2.2.2.2.2.2.2.2.2.1 hI.2.2.2.2.2.2.2.2.2.2.2.2.2.2.2.2.2.2.2.1 hI.2.2.2.2.2.2.2.2.2.2.2.2.2.2.2.2.2.2.2.2.2.1 hI.2.2.2.2.2.2.2.2.2.2.2.2.2.2.2.2.2.2.2.2.2.2.1) ?_ ?_ ?_
  · rintro args s ⟨rfl, hsz, hP, hK, hD⟩
    exact ⟨rfl, hsz, hP, hK, hD⟩
  · rintro args s o t ⟨rfl, hsz, hP, hK, hD⟩ ⟨⟨r, u, ho, hw, hB⟩, hF⟩
    obtain ⟨w0_37, w0_41, z1, z2, z3, z4, z5, z6, hB⟩ := hB
    obtain ⟨gw0_37, gw0_41, gz6, hE, hP1, hD1⟩ := hB
    obtain ⟨hu9, hw⟩ := hw
    subst hu9
    subst hsz
    exact ⟨⟨r, r, ho, rfl, (upd (upd mi 37 w0_37) 41 w0_41), (updF (updF (updF (updF (updF (updF fm 14 z1) 15 z2) 16 z3) 17 z4) 18 z5) 19 z6), ⟨hI.1, hI.2.1, hI.2.2.1, hI.2.2.2.1, hI.2.2.2.2.1, hI.2.2.2.2.2.1, hI.2.2.2.2.2.2.1, hI.2.2.2.2.2.2.2.1, hI.2.2.2.2.2.2.2.2.1, hI.2.2.2.2.2.2.2.2.2.1, hI.2.2.2.2.2.2.2.2.2.2.1, hI.2.2.2.2.2.2.2.2.2.2.2.1, hI.2.2.2.2.2.2.2.2.2.2.2.2.1, hI.2.2.2.2.2.2.2.2.2.2.2.2.2.1, gw0_37, gw0_41, hI.2.2.2.2.2.2.2.2.2.2.2.2.2.2.2.2.1, hI.2.2.2.2.2.2.2.2.2.2.2.2.2.2.2.2.2.1, hI.2.2.2.2.2.2.2.2.2.2.2.2.2.2.2.2.2.2.1, hI.2.2.2.2.2.2.2.2.2.2.2.2.2.2.2.2.2.2.2.1, hI.2.2.2.2.2.2.2.2.2.2.2.2.2.2.2.2.2.2.2.2.1, hI.2.2.2.2.2.2.2.2.2.2.2.2.2.2.2.2.2.2.2.2.2.1, hI.2.2.2.2.2.2.2.2.2.2.2.2.2.2.2.2.2.2.2.2.2.2.1, hI.2.2.2.2.2.2.2.2.2.2.2.2.2.2.2.2.2.2.2.2.2.2.2.1, hI.2.2.2.2.2.2.2.2.2.2.2.2.2.2.2.2.2.2.2.2.2.2.2.2.1, hI.2.2.2.2.2.2.2.2.2.2.2.2.2.2.2.2.2.2.2.2.2.2.2.2.2.1, gz6, hI.2.2.2.2.2.2.2.2.2.2.2.2.2.2.2.2.2.2.2.2.2.2.2.2.2.2.2.1, hI.2.2.2.2.2.2.2.2.2.2.2.2.2.2.2.2.2.2.2.2.2.2.2.2.2.2.2.2⟩, congrArg (mt_span mi fm) hE, hP1, hD1⟩, hF⟩
  · exact fun q h => h
noncomputable def mt_sure (mi : Nat → Int32) (fm : Nat → Nat → Int32) (o : Int32 × Int32 × Int32 × (Nat → Int32) × (Nat → Int32) × (Nat → Int32) × (Nat → Int32) × (Nat → Int32) × (Nat → Int32)) : Int32 × (Nat → Int32) × (Nat → Nat → Int32) := (o.1, (upd (upd mi 37 o.2.1) 41 o.2.2.1), (updF (updF (updF (updF (updF (updF fm 14 o.2.2.2.1) 15 o.2.2.2.2.1) 16 o.2.2.2.2.2.1) 17 o.2.2.2.2.2.2.1) 18 o.2.2.2.2.2.2.2.1) 19 o.2.2.2.2.2.2.2.2))
noncomputable def ms_sure (mi : Nat → Int32) (fm : Nat → Nat → Int32) (p1 : Int32) : Int32 × (Nat → Int32) × (Nat → Nat → Int32) := mt_sure mi fm (fX12_sure mi (fm 14) (fm 15) (fm 16) (fm 17) (fm 18) (fm 19) (fm 4) (fm 7) (fm 2) (fm 5) (fm 6) (fm 3) (fm 0) (fm 1) p1)
set_option maxHeartbeats 4000000 in
set_option maxRecDepth 100000 in
theorem uX12_sure (l : Launch) (dC : Nat → ClassId) (dI : Nat → Nat → Nat) (sz : Nat) (hm : Nat) (mi : Nat → Int32) (mr : Nat → Nat) (km : Nat → ClassId) (fm : Nat → Nat → Int32) (hI : MI mi fm) (p1 : Int32) : Met l yX12_sure (.code yX12_sure cX12_sure 4 (some .int) :: wsGB) ({ frames := 6, cells := 0, slots := 0, locals := 147 }) (va_Pc [.ref hm, .int p1] (fun U => U.heap.size = sz ∧ va_P (dC, dI) vwCl (MW hm mi mr km fm) U.heap ∧ va_K (dC, dI) vwCl (MT km) U ∧ va_D (fun _ => True) (MW hm mi mr km fm))) (va_Qi (fun (r : Int32) (u : Int32) => r = u) (fun r t => MB dC dI hm mi mr km fm sz (fun v f => (r, v, f) = ms_sure mi fm p1) t) (va_A (MW hm mi mr km fm) sz)) 0 0 (va_A (MW hm mi mr km fm) sz) := by
  refine gz_mono (sX12_sure l dC dI sz hm mi mr km (fm 14) (fm 15) (fm 16) (fm 17) (fm 18) (fm 19) (fm 4) (fm 7) (fm 2) (fm 5) (fm 6) (fm 3) (fm 0) (fm 1) (fm 8) (fm 9) (fm 10) (fm 11) (fm 12) (fm 13) (fm 20) (fm 21) (fm 22) (fm 23) p1 hI.1 hI.2.1 hI.2.2.1 hI.2.2.2.1 hI.2.2.2.2.1 hI.2.2.2.2.2.1 hI.2.2.2.2.2.2.1 hI.2.2.2.2.2.2.2.1 hI.2.2.2.2.2.2.2.2.1 hI.2.2.2.2.2.2.2.2.2.1 hI.2.2.2.2.2.2.2.2.2.2.1 hI.2.2.2.2.2.2.2.2.2.2.2.1 hI.2.2.2.2.2.2.2.2.2.2.2.2.2.1 hI.2.2.2.2.2.2.2.2.2.2.2.2.2.2.1 hI.2.2.2.2.2.2.2.2.2.2.2.2.2.2.2.1 hI.2.2.2.2.2.2.2.2.2.2.2.2.2.2.2.2.1 hI.2.2.2.2.2.2.2.2.2.2.2.2.2.2.2.2.2.1 hI.2.2.2.2.2.2.2.2.2.2.2.2.2.2.2.2.2.2.1 hI.2.2.2.2.2.2.2.2.2.2.2.2.2.2.2.2.2.2.2.2.2.2.2.2.2.2.1 hI.2.2.2.2.2.2.2.2.2.2.2.2.2.2.2.2.2.2.2.2.1 hI.2.2.2.2.2.2.2.2.2.2.2.2.2.2.2.2.2.2.2.2.2.2.2.1 hI.2.2.2.2.2.2.2.2.2.2.2.2.2.2.2.2.2.2.2.1 hI.2.2.2.2.2.2.2.2.2.2.2.2.2.2.2.2.2.2.2.2.2.1 hI.2.2.2.2.2.2.2.2.2.2.2.2.2.2.2.2.2.2.2.2.2.2.1) ?_ ?_ ?_
  · rintro args s ⟨rfl, hsz, hP, hK, hD⟩
    exact ⟨rfl, hsz, hP, hK, hD⟩
  · rintro args s o t ⟨rfl, hsz, hP, hK, hD⟩ ⟨⟨r, u, ho, hw, hB⟩, hF⟩
    obtain ⟨w0_37, w0_41, z1, z2, z3, z4, z5, z6, hB⟩ := hB
    obtain ⟨gw0_37, gw0_41, gz6, hE, hP1, hD1⟩ := hB
    obtain ⟨hu9, hw⟩ := hw
    subst hu9
    subst hsz
    exact ⟨⟨r, r, ho, rfl, (upd (upd mi 37 w0_37) 41 w0_41), (updF (updF (updF (updF (updF (updF fm 14 z1) 15 z2) 16 z3) 17 z4) 18 z5) 19 z6), ⟨hI.1, hI.2.1, hI.2.2.1, hI.2.2.2.1, hI.2.2.2.2.1, hI.2.2.2.2.2.1, hI.2.2.2.2.2.2.1, hI.2.2.2.2.2.2.2.1, hI.2.2.2.2.2.2.2.2.1, hI.2.2.2.2.2.2.2.2.2.1, hI.2.2.2.2.2.2.2.2.2.2.1, hI.2.2.2.2.2.2.2.2.2.2.2.1, hI.2.2.2.2.2.2.2.2.2.2.2.2.1, hI.2.2.2.2.2.2.2.2.2.2.2.2.2.1, gw0_37, gw0_41, hI.2.2.2.2.2.2.2.2.2.2.2.2.2.2.2.2.1, hI.2.2.2.2.2.2.2.2.2.2.2.2.2.2.2.2.2.1, hI.2.2.2.2.2.2.2.2.2.2.2.2.2.2.2.2.2.2.1, hI.2.2.2.2.2.2.2.2.2.2.2.2.2.2.2.2.2.2.2.1, hI.2.2.2.2.2.2.2.2.2.2.2.2.2.2.2.2.2.2.2.2.1, hI.2.2.2.2.2.2.2.2.2.2.2.2.2.2.2.2.2.2.2.2.2.1, hI.2.2.2.2.2.2.2.2.2.2.2.2.2.2.2.2.2.2.2.2.2.2.1, hI.2.2.2.2.2.2.2.2.2.2.2.2.2.2.2.2.2.2.2.2.2.2.2.1, hI.2.2.2.2.2.2.2.2.2.2.2.2.2.2.2.2.2.2.2.2.2.2.2.2.1, hI.2.2.2.2.2.2.2.2.2.2.2.2.2.2.2.2.2.2.2.2.2.2.2.2.2.1, gz6, hI.2.2.2.2.2.2.2.2.2.2.2.2.2.2.2.2.2.2.2.2.2.2.2.2.2.2.2.1, hI.2.2.2.2.2.2.2.2.2.2.2.2.2.2.2.2.2.2.2.2.2.2.2.2.2.2.2.2⟩, congrArg (mt_sure mi fm) hE, hP1, hD1⟩, hF⟩
  · exact fun q h => h
abbrev pb_sX12_runsC (dC : Nat → ClassId) (dI : Nat → Nat → Nat) (A9 : Nat → Prop) (h0 : Nat) (mi : Nat → Int32) (mr : Nat → Nat) (km : Nat → ClassId) (fm_must : Nat → Int32) (fm_least : Nat → Int32) (fm_pin : Nat → Int32) (fm_ways : Nat → Int32) (fm_verdict : Nat → Int32) (fm_row : Nat → Int32) (fm_struck : Nat → Int32) (fm_reportKnown : Nat → Int32) (fm_reportPlace : Nat → Int32) (fm_reportMonth : Nat → Int32) (fm_reportDay : Nat → Int32) (fm_reportKind : Nat → Int32) (fm_trust : Nat → Int32) (fm_letter : Nat → Int32) (fm_deedMonth : Nat → Int32) (fm_deedDay : Nat → Int32) (fm_deedLong : Nat → Int32) (fm_deedKind : Nat → Int32) (fm_kept : Nat → Int32) (fm_tape : Nat → Int32) (fm_official : Nat → Int32) (fm_aside : Nat → Int32) (fm_worth : Nat → Int32) (fm_out : Nat → Int32) (p1 : Int32) (p2 : Int32) (r : Int32) (w0_1 : Int32) (w0_2 : Int32) (w0_37 : Int32) (w0_41 : Int32) (z1 : Nat → Int32) (z2 : Nat → Int32) (z3 : Nat → Int32) (z4 : Nat → Int32) (z5 : Nat → Int32) (z6 : Nat → Int32) (t : State) : Prop := gi w0_1 0 5 ∧ gi w0_2 0 5 ∧ gi w0_37 0 1 ∧ gi w0_41 0 24 ∧ ga z6 24 0 23 ∧ ((mi 3).toInt = 0 ∨ (2 ≤ (mi 0).toInt ∧ (mi 0).toInt ≤ 24 ∧ 1 ≤ w0_1.toInt ∧ w0_1.toInt ≤ 5 ∧ 1 ≤ w0_2.toInt ∧ w0_2.toInt ≤ 5)) ∧ (r, w0_1, w0_2, w0_37, w0_41, z1, z2, z3, z4, z5, z6) = fX12_runs mi fm_must fm_least fm_pin fm_ways fm_verdict fm_row fm_struck fm_reportKnown fm_reportPlace fm_reportMonth fm_reportDay fm_reportKind fm_trust fm_letter p1 p2 ∧ va_P (dC, dI) vwCl (MWn h0 mr km (mi 0) w0_1 w0_2 (mi 3) (mi 4) (mi 5) (mi 6) (mi 7) (mi 10) (mi 17) (mi 23) (mi 24) (mi 26) (mi 27) (mi 28) (mi 29) (mi 30) (mi 31) (mi 32) (mi 33) w0_37 w0_41 (mi 42) (mi 43) (mi 44) (mi 45) (mi 47) (mi 48) (mi 49) (mi 50) (mi 51) (mi 54) (mi 56) fm_trust fm_letter fm_reportPlace fm_reportKind fm_struck fm_reportMonth fm_reportDay fm_reportKnown fm_deedMonth fm_deedDay fm_deedLong fm_deedKind fm_kept fm_tape z1 z2 z3 z4 z5 z6 fm_official fm_aside fm_worth fm_out) t.heap ∧ va_D A9 (MWn h0 mr km (mi 0) w0_1 w0_2 (mi 3) (mi 4) (mi 5) (mi 6) (mi 7) (mi 10) (mi 17) (mi 23) (mi 24) (mi 26) (mi 27) (mi 28) (mi 29) (mi 30) (mi 31) (mi 32) (mi 33) w0_37 w0_41 (mi 42) (mi 43) (mi 44) (mi 45) (mi 47) (mi 48) (mi 49) (mi 50) (mi 51) (mi 54) (mi 56) fm_trust fm_letter fm_reportPlace fm_reportKind fm_struck fm_reportMonth fm_reportDay fm_reportKnown fm_deedMonth fm_deedDay fm_deedLong fm_deedKind fm_kept fm_tape z1 z2 z3 z4 z5 z6 fm_official fm_aside fm_worth fm_out)
set_option maxHeartbeats 4000000 in
set_option maxRecDepth 100000 in
theorem sX12_runsC (l : Launch) (dC : Nat → ClassId) (dI : Nat → Nat → Nat) (sz : Nat) (h0 : Nat) (mi : Nat → Int32) (mr : Nat → Nat) (km : Nat → ClassId) (fm_must : Nat → Int32) (fm_least : Nat → Int32) (fm_pin : Nat → Int32) (fm_ways : Nat → Int32) (fm_verdict : Nat → Int32) (fm_row : Nat → Int32) (fm_struck : Nat → Int32) (fm_reportKnown : Nat → Int32) (fm_reportPlace : Nat → Int32) (fm_reportMonth : Nat → Int32) (fm_reportDay : Nat → Int32) (fm_reportKind : Nat → Int32) (fm_trust : Nat → Int32) (fm_letter : Nat → Int32) (fm_deedMonth : Nat → Int32) (fm_deedDay : Nat → Int32) (fm_deedLong : Nat → Int32) (fm_deedKind : Nat → Int32) (fm_kept : Nat → Int32) (fm_tape : Nat → Int32) (fm_official : Nat → Int32) (fm_aside : Nat → Int32) (fm_worth : Nat → Int32) (fm_out : Nat → Int32) (p1 : Int32) (p2 : Int32) (gmi_0 : gi (mi 0) 0 24) (gmi_1 : gi (mi 1) 0 5) (gmi_2 : gi (mi 2) 0 5) (gmi_4 : gi (mi 4) 0 1) (gmi_7 : gi (mi 7) 0 6) (gmi_10 : gi (mi 10) 0 24) (gmi_17 : gi (mi 17) 0 8) (gmi_23 : gi (mi 23) 0 300) (gmi_24 : gi (mi 24) 0 1) (gmi_26 : gi (mi 26) 0 1600) (gmi_29 : gi (mi 29) 0 1600) (gmi_30 : gi (mi 30) 0 1600) (gmi_33 : gi (mi 33) 0 1) (gmi_37 : gi (mi 37) 0 1) (gmi_41 : gi (mi 41) 0 24) (gmi_50 : gi (mi 50) 0 1) (gmi_51 : gi (mi 51) 0 1) (gmi_56 : gi (mi 56) 0 80) (gfm_row : ga fm_row 24 0 23) (gfm_struck : ga fm_struck 24 0 1) (gfm_reportKnown : ga fm_reportKnown 24 0 999) (gfm_reportPlace : ga fm_reportPlace 24 0 5) (gfm_reportMonth : ga fm_reportMonth 24 0 23) (gfm_reportDay : ga fm_reportDay 24 0 999) (hpq0 : ((mi 3).toInt = 0 ∨ (2 ≤ (mi 0).toInt ∧ (mi 0).toInt ≤ 24 ∧ 1 ≤ (mi 1).toInt ∧ (mi 1).toInt ≤ 5 ∧ 1 ≤ (mi 2).toInt ∧ (mi 2).toInt ≤ 5))) : Met l yX12_runs (.code yX12_runs cX12_runs 6 (some .int) :: wsGB) ({ frames := 5, cells := 0, slots := 0, locals := 119 }) (va_Pc [.ref h0, .int p1, .int p2] (fun U => U.heap.size = sz ∧ va_P (dC, dI) vwCl (MWn h0 mr km (mi 0) (mi 1) (mi 2) (mi 3) (mi 4) (mi 5) (mi 6) (mi 7) (mi 10) (mi 17) (mi 23) (mi 24) (mi 26) (mi 27) (mi 28) (mi 29) (mi 30) (mi 31) (mi 32) (mi 33) (mi 37) (mi 41) (mi 42) (mi 43) (mi 44) (mi 45) (mi 47) (mi 48) (mi 49) (mi 50) (mi 51) (mi 54) (mi 56) fm_trust fm_letter fm_reportPlace fm_reportKind fm_struck fm_reportMonth fm_reportDay fm_reportKnown fm_deedMonth fm_deedDay fm_deedLong fm_deedKind fm_kept fm_tape fm_must fm_least fm_pin fm_ways fm_verdict fm_row fm_official fm_aside fm_worth fm_out) U.heap ∧ va_K (dC, dI) vwCl (MT km) U ∧ va_D (fun _ => True) (MWn h0 mr km (mi 0) (mi 1) (mi 2) (mi 3) (mi 4) (mi 5) (mi 6) (mi 7) (mi 10) (mi 17) (mi 23) (mi 24) (mi 26) (mi 27) (mi 28) (mi 29) (mi 30) (mi 31) (mi 32) (mi 33) (mi 37) (mi 41) (mi 42) (mi 43) (mi 44) (mi 45) (mi 47) (mi 48) (mi 49) (mi 50) (mi 51) (mi 54) (mi 56) fm_trust fm_letter fm_reportPlace fm_reportKind fm_struck fm_reportMonth fm_reportDay fm_reportKnown fm_deedMonth fm_deedDay fm_deedLong fm_deedKind fm_kept fm_tape fm_must fm_least fm_pin fm_ways fm_verdict fm_row fm_official fm_aside fm_worth fm_out))) (va_Qi (fun (r : Int32) (u : Int32) => r = u ∧ gi r (-5) 0) (fun r t => ∃ (w0_1 : Int32) (w0_2 : Int32) (w0_37 : Int32) (w0_41 : Int32) (z1 : Nat → Int32) (z2 : Nat → Int32) (z3 : Nat → Int32) (z4 : Nat → Int32) (z5 : Nat → Int32) (z6 : Nat → Int32), pb_sX12_runsC dC dI (va_A (MWn h0 mr km (mi 0) (mi 1) (mi 2) (mi 3) (mi 4) (mi 5) (mi 6) (mi 7) (mi 10) (mi 17) (mi 23) (mi 24) (mi 26) (mi 27) (mi 28) (mi 29) (mi 30) (mi 31) (mi 32) (mi 33) (mi 37) (mi 41) (mi 42) (mi 43) (mi 44) (mi 45) (mi 47) (mi 48) (mi 49) (mi 50) (mi 51) (mi 54) (mi 56) fm_trust fm_letter fm_reportPlace fm_reportKind fm_struck fm_reportMonth fm_reportDay fm_reportKnown fm_deedMonth fm_deedDay fm_deedLong fm_deedKind fm_kept fm_tape fm_must fm_least fm_pin fm_ways fm_verdict fm_row fm_official fm_aside fm_worth fm_out) sz) h0 mi mr km fm_must fm_least fm_pin fm_ways fm_verdict fm_row fm_struck fm_reportKnown fm_reportPlace fm_reportMonth fm_reportDay fm_reportKind fm_trust fm_letter fm_deedMonth fm_deedDay fm_deedLong fm_deedKind fm_kept fm_tape fm_official fm_aside fm_worth fm_out p1 p2 r w0_1 w0_2 w0_37 w0_41 z1 z2 z3 z4 z5 z6 t) (va_A (MWn h0 mr km (mi 0) (mi 1) (mi 2) (mi 3) (mi 4) (mi 5) (mi 6) (mi 7) (mi 10) (mi 17) (mi 23) (mi 24) (mi 26) (mi 27) (mi 28) (mi 29) (mi 30) (mi 31) (mi 32) (mi 33) (mi 37) (mi 41) (mi 42) (mi 43) (mi 44) (mi 45) (mi 47) (mi 48) (mi 49) (mi 50) (mi 51) (mi 54) (mi 56) fm_trust fm_letter fm_reportPlace fm_reportKind fm_struck fm_reportMonth fm_reportDay fm_reportKnown fm_deedMonth fm_deedDay fm_deedLong fm_deedKind fm_kept fm_tape fm_must fm_least fm_pin fm_ways fm_verdict fm_row fm_official fm_aside fm_worth fm_out) sz)) 0 0 (va_A (MWn h0 mr km (mi 0) (mi 1) (mi 2) (mi 3) (mi 4) (mi 5) (mi 6) (mi 7) (mi 10) (mi 17) (mi 23) (mi 24) (mi 26) (mi 27) (mi 28) (mi 29) (mi 30) (mi 31) (mi 32) (mi 33) (mi 37) (mi 41) (mi 42) (mi 43) (mi 44) (mi 45) (mi 47) (mi 48) (mi 49) (mi 50) (mi 51) (mi 54) (mi 56) fm_trust fm_letter fm_reportPlace fm_reportKind fm_struck fm_reportMonth fm_reportDay fm_reportKnown fm_deedMonth fm_deedDay fm_deedLong fm_deedKind fm_kept fm_tape fm_must fm_least fm_pin fm_ways fm_verdict fm_row fm_official fm_aside fm_worth fm_out) sz) := by
  refine Met.ofW (cc := cX12_runs) (maxL := 6) (ret := (some .int)) (by decide) rfl ?_
  intro p e s m args below meth c s₁ B hml hv
  obtain ⟨rfl, hsz, hP, hK, hD0⟩ := hv
  have hx := B.exec
  have hb := B.bytes
  have hr := B.returns
  have hts := atoms_spec (ws := (.code yX12_runs cX12_runs 6 (some .int) :: wsGB)) B.pre
  have hown : s.vm.findClass RX12 = some m.cls := findClass_of_methodNamed B.named
  have hlocks := B.notSynchronized
  subst hsz
  have hD := hD0.self (sz := s.heap.size)
  generalize hAe : va_A (MWn h0 mr km (mi 0) (mi 1) (mi 2) (mi 3) (mi 4) (mi 5) (mi 6) (mi 7) (mi 10) (mi 17) (mi 23) (mi 24) (mi 26) (mi 27) (mi 28) (mi 29) (mi 30) (mi 31) (mi 32) (mi 33) (mi 37) (mi 41) (mi 42) (mi 43) (mi 44) (mi 45) (mi 47) (mi 48) (mi 49) (mi 50) (mi 51) (mi 54) (mi 56) fm_trust fm_letter fm_reportPlace fm_reportKind fm_struck fm_reportMonth fm_reportDay fm_reportKnown fm_deedMonth fm_deedDay fm_deedLong fm_deedKind fm_kept fm_tape fm_must fm_least fm_pin fm_ways fm_verdict fm_row fm_official fm_aside fm_worth fm_out) s.heap.size = A at hD ⊢
  have hA : ∀ q : Nat, s.heap.size ≤ q → A q := fun q h => by rw [← hAe]; exact Or.inr h
  have hS : va_S A s.heap s.heap [] := va_S.rf
  have hl := lv_entry ([.ref h0, .int p1, .int p2]) (n := 6) (Nat.le_of_ble_eq_true rfl)
  rw [lg_entry_eq]
  generalize (lg_sl ([.ref h0, .int p1, .int p2]) ++ List.replicate (6 - (lg_sl ([.ref h0, .int p1, .int p2])).length) Slot.unset).toArray = ls at hl ⊢
  have hl : lv_has ls 6 [(0, .ref h0), (1, .int p1), (2, .int p2)] := hl
  obtain ⟨RES, hF⟩ : ∃ R9, fX12_runs mi fm_must fm_least fm_pin fm_ways fm_verdict fm_row fm_struck fm_reportKnown fm_reportPlace fm_reportMonth fm_reportDay fm_reportKind fm_trust fm_letter p1 p2 = R9 := ⟨_, rfl⟩
  have hR9 := hF
  refine lv_aload_n hx hb (dk_at dkX12_runs 0 rfl) rfl (lv_at hl 0 rfl) ?_
  refine va_get (D := (dC, dI)) (ci := 12) (v := .int (mi 3)) (C := RX12) (T := TX12) (N := 57) hx hb hts (fun w h => List.mem_cons_of_mem _ (jnGB_X12 w h)) hown hK hP 0 rfl rfl 3 (by decide) (hts _ (List.mem_cons_of_mem _ mGB_106)) (fun _ h9 => h9) rfl (dk_at dkX12_runs 1 rfl) ?_
  refine lv_if_eq (tgt := 31) hx hb (dk_at dkX12_runs 2 rfl) (by decide) (fun c_95 => ?_) (fun c_95 => ?_)
  · have hF := gf_pos c_95 hF
    have hc_96 : (mi 3).toInt = 0 := by have h9 := congrArg Int32.toInt c_95; rw [show (0 : Int32).toInt = 0 from by decide] at h9; exact h9
    have g_97 : gi (mi 3) 0 0 := gi_eq c_95 (gi_c 0 0 (by decide))
    refine lv_bipush (v := (-2)) hx hb (dk_at dkX12_runs 15 rfl) (by decide) ?_
    exact W.iret (v := (-2)) hx hb hr (fun t ht hW => ⟨⟨(-2), (-2), rfl, ⟨rfl, (gi_w (gi_c (-2) (-2) (by decide)) (by decide))⟩, (mi 1), (mi 2), (mi 37), (mi 41), fm_must, fm_least, fm_pin, fm_ways, fm_verdict, fm_row, gmi_1, gmi_2, gmi_37, gmi_41, gfm_row, hpq0, hF.trans hR9.symm, by rw [ht]; exact hP, hD⟩, hS.F ht⟩) hS.2.2 (dk_at dkX12_runs 16 rfl)
  · have hF := gf_neg c_95 hF
    have hc_98 : (mi 3).toInt ≠ 0 := fun h9 => c_95 (Int32.toInt_inj.mp (by rw [show (0 : Int32).toInt = 0 from by decide]; exact h9))
    refine lv_iload_n hx hb (dk_at dkX12_runs 3 rfl) rfl (lv_at hl 1 rfl) ?_
    refine lv_i2l (v := (p1).toInt64) hx hb (dk_at dkX12_runs 4 rfl) rfl ?_
    refine lv_topl (fun l_99 el_99 => ?_)
    refine lv_lconst (v := 1) hx hb (dk_at dkX12_runs 5 rfl) (by decide) ?_
    refine lv_ldc2 (own := RX12) (v := 5) hx hb hown (hts _ (List.mem_cons_of_mem _ mGB_595)) (dk_at dkX12_runs 6 rfl) ?_
    have hPc := hP.sub (ws' := []) [] rfl
    have hKc := hK.sub (tys' := []) [] rfl
    refine va_calli (va_runS (As := [.long l_99, .long 1, .long 5]) (rest := []) ⟨hx, hb, hml, hown, hts⟩ (sX12_in l dC dI l_99 1 5) (cwS 3 hts (gz_gS mGB_47 mGB_48 mGB_1 mGB_49 goodGB) rfl rfl rfl hdS_X12_in_X12_3 ⟨Nat.le_of_ble_eq_true rfl, Nat.le_of_ble_eq_true rfl⟩) ⟨bl_R, fun U hU hW => ⟨rfl, by rw [hU]; exact hPc, va_K.moved hW.alike hKc⟩⟩ rfl rfl hl.1 rfl (lv_room (Nat.le_of_ble_eq_true rfl)) (dk_at dkX12_runs 7 rfl) ⟨Nat.zero_le _, Nat.zero_le _⟩) hS (fun q _ h => h.elim) (fun q h => h.elim) (fun r_100 u t H1 locs ht hvm hw hB hz1 hk1 hS => ?_)
    clear hz1
    obtain ⟨hw, hE⟩ := hw
    have hP := gz_keep hP hk1
    have hF := gf_call (a := r_100) (by rw [el_99] at hE; exact hE) hF
    generalize H1 = H at hP hS ⊢
    have gr_100 : gi r_100 0 1 := hw.1
    have hqr_100 := hw.2
    refine lv_if_eq (tgt := 31) hx hb (dk_at dkX12_runs 8 rfl) (by decide) (fun c_101 => ?_) (fun c_101 => ?_)
    · have hF := gf_pos c_101 hF
      have hc_102 : r_100.toInt = 0 := by have h9 := congrArg Int32.toInt c_101; rw [show (0 : Int32).toInt = 0 from by decide] at h9; exact h9
      have g_103 : gi r_100 0 0 := gi_eq c_101 (gi_c 0 0 (by decide))
      have hno_104 := gz_inF (A := 1) (B := 5) (hqr_100.2 (gz_zero1 g_103)) el_99 (by decide) (by decide)
      refine lv_bipush (v := (-2)) hx hb (dk_at dkX12_runs 15 rfl) (by decide) ?_
      exact W.iret (v := (-2)) hx hb hr (fun t ht hW => ⟨⟨(-2), (-2), rfl, ⟨rfl, (gi_w (gi_c (-2) (-2) (by decide)) (by decide))⟩, (mi 1), (mi 2), (mi 37), (mi 41), fm_must, fm_least, fm_pin, fm_ways, fm_verdict, fm_row, gmi_1, gmi_2, gmi_37, gmi_41, gfm_row, hpq0, hF.trans hR9.symm, by rw [ht]; exact hP, hD⟩, hS.F ht⟩) hS.2.2 (dk_at dkX12_runs 16 rfl)
    · have hF := gf_neg c_101 hF
      have hc_105 : r_100.toInt ≠ 0 := fun h9 => c_101 (Int32.toInt_inj.mp (by rw [show (0 : Int32).toInt = 0 from by decide]; exact h9))
      have g_106 : gi r_100 1 1 := gi_ne_lo c_101 gr_100 (gi_c 0 0 (by decide)) (by decide)
      have hin_107 := gz_inT (A := 1) (B := 5) (hqr_100.1 (gz_one g_106)) el_99 (by decide) (by decide)
      have g_108 : gi p1 1 5 := gi_cap (gi_any p1) (gz_inr (hqr_100.1 (gz_one g_106)) el_99 (A := 1) (B := 5) (by decide) (by decide)) (by decide)
      refine lv_iload_n hx hb (dk_at dkX12_runs 9 rfl) rfl (lv_at hl 2 rfl) ?_
      refine lv_i2l (v := (p2).toInt64) hx hb (dk_at dkX12_runs 10 rfl) rfl ?_
      refine lv_topl (fun l_109 el_109 => ?_)
      refine lv_lconst (v := 1) hx hb (dk_at dkX12_runs 11 rfl) (by decide) ?_
      refine lv_ldc2 (own := RX12) (v := 5) hx hb hown (hts _ (List.mem_cons_of_mem _ mGB_595)) (dk_at dkX12_runs 12 rfl) ?_
      have hPc := hP.sub (ws' := []) [] rfl
      have hKc := hK.sub (tys' := []) [] rfl
      refine va_calli (va_runS (As := [.long l_109, .long 1, .long 5]) (rest := []) ⟨hx, hb, hml, hown, hts⟩ (sX12_in l dC dI l_109 1 5) (cwS 3 hts (gz_gS mGB_47 mGB_48 mGB_1 mGB_49 goodGB) rfl rfl rfl hdS_X12_in_X12_3 ⟨Nat.le_of_ble_eq_true rfl, Nat.le_of_ble_eq_true rfl⟩) ⟨bl_R, fun U hU hW => ⟨rfl, by rw [hU]; exact hPc, va_K.moved hW.alike hKc⟩⟩ rfl rfl hl.1 rfl (lv_room (Nat.le_of_ble_eq_true rfl)) (dk_at dkX12_runs 13 rfl) ⟨Nat.zero_le _, Nat.zero_le _⟩) hS (fun q _ h => h.elim) (fun q h => h.elim) (fun r_110 u t H1 locs ht hvm hw hB hz1 hk1 hS => ?_)
      clear hz1
      obtain ⟨hw, hE⟩ := hw
      have hP := gz_keep hP hk1
      have hF := gf_call (a := r_110) (by rw [el_109] at hE; exact hE) hF
      generalize H1 = H at hP hS ⊢
      have gr_110 : gi r_110 0 1 := hw.1
      have hqr_110 := hw.2
      refine lv_if_ne (tgt := 34) hx hb (dk_at dkX12_runs 14 rfl) (by decide) (fun c_111 => ?_) (fun c_111 => ?_)
      · have hF := gf_neg c_111 hF
        have hc_112 : r_110.toInt ≠ 0 := fun h9 => c_111 (Int32.toInt_inj.mp (by rw [show (0 : Int32).toInt = 0 from by decide]; exact h9))
        have g_113 : gi r_110 1 1 := gi_ne_lo c_111 gr_110 (gi_c 0 0 (by decide)) (by decide)
        have hin_114 := gz_inT (A := 1) (B := 5) (hqr_110.1 (gz_one g_113)) el_109 (by decide) (by decide)
        have g_115 : gi p2 1 5 := gi_cap (gi_any p2) (gz_inr (hqr_110.1 (gz_one g_113)) el_109 (A := 1) (B := 5) (by decide) (by decide)) (by decide)
        refine lv_aload_n hx hb (dk_at dkX12_runs 17 rfl) rfl (lv_at hl 0 rfl) ?_
        refine lv_sipush (v := 999) hx hb (dk_at dkX12_runs 18 rfl) (by decide) ?_
        have hFc := gz_fullF hD hS hA
        refine va_callv (va_runV (As := [.int 999]) (rest := []) ⟨hx, hb, hml, hown, hts⟩ (sX12_judgesAll l dC dI H.size h0 mi mr km fm_must fm_least fm_pin fm_ways fm_verdict fm_row fm_struck fm_reportKnown fm_reportPlace fm_reportMonth fm_reportDay fm_reportKind fm_trust fm_letter fm_deedMonth fm_deedDay fm_deedLong fm_deedKind fm_kept fm_tape fm_official fm_aside fm_worth fm_out 999 gmi_0 gmi_1 gmi_2 gmi_4 gmi_7 gmi_10 gmi_17 gmi_23 gmi_24 gmi_26 gmi_29 gmi_30 gmi_33 gmi_37 gmi_41 gmi_50 gmi_51 gmi_56 gfm_row gfm_struck gfm_reportKnown gfm_reportPlace gfm_reportMonth gfm_reportDay) (cwV 1 hts (gz_gV mGB_261 mGB_262 mGB_263 mGB_1 mGB_264 goodGB) rfl rfl rfl hdV_X12_judgesAll_X12_1 ⟨Nat.le_of_ble_eq_true rfl, Nat.le_of_ble_eq_true rfl⟩) ⟨bl_W, mw_recv hK hP, fun U hU hW => ⟨rfl, by rw [hU], by rw [hU]; exact hP, va_K.moved hW.alike hK, hD.weaken (fun _ _ _ _ => trivial)⟩⟩ rfl rfl hl.1 rfl (lv_room (Nat.le_of_ble_eq_true rfl)) (dk_at dkX12_runs 19 rfl) ⟨Nat.zero_le _, Nat.zero_le _⟩) hS (fun q _ h => hFc q h) hFc (fun u t H1 locs ht hvm hw hB hz1 hk1 hS => ?_)
        clear hz1
        obtain ⟨y_117, y_118, f_119, f_120, f_121, f_122, f_123, f_124, hB⟩ := hB
        obtain ⟨gy_117, gy_118, gf_124, hE, hP1, hD1⟩ := hB
        rw [ht] at hP1
        have hD : va_D A (MWn h0 mr km (mi 0) (mi 1) (mi 2) (mi 3) (mi 4) (mi 5) (mi 6) (mi 7) (mi 10) (mi 17) (mi 23) (mi 24) (mi 26) (mi 27) (mi 28) (mi 29) (mi 30) (mi 31) (mi 32) (mi 33) y_117 y_118 (mi 42) (mi 43) (mi 44) (mi 45) (mi 47) (mi 48) (mi 49) (mi 50) (mi 51) (mi 54) (mi 56) fm_trust fm_letter fm_reportPlace fm_reportKind fm_struck fm_reportMonth fm_reportDay fm_reportKnown fm_deedMonth fm_deedDay fm_deedLong fm_deedKind fm_kept fm_tape f_119 f_120 f_121 f_122 f_123 f_124 fm_official fm_aside fm_worth fm_out) := gz_fullD hFc hD1
        have hP : va_P (dC, dI) vwCl (MWn h0 mr km (mi 0) (mi 1) (mi 2) (mi 3) (mi 4) (mi 5) (mi 6) (mi 7) (mi 10) (mi 17) (mi 23) (mi 24) (mi 26) (mi 27) (mi 28) (mi 29) (mi 30) (mi 31) (mi 32) (mi 33) y_117 y_118 (mi 42) (mi 43) (mi 44) (mi 45) (mi 47) (mi 48) (mi 49) (mi 50) (mi 51) (mi 54) (mi 56) fm_trust fm_letter fm_reportPlace fm_reportKind fm_struck fm_reportMonth fm_reportDay fm_reportKnown fm_deedMonth fm_deedDay fm_deedLong fm_deedKind fm_kept fm_tape f_119 f_120 f_121 f_122 f_123 f_124 fm_official fm_aside fm_worth fm_out) H1 := hP1
        have hF := gf_callm (a := (y_117, y_118, f_119, f_120, f_121, f_122, f_123, f_124)) hE hF (by first | with_reducible rfl | simp only [upd_same, upd_app, ↓reduceIte, Nat.reduceEqDiff])
        generalize H1 = H at hP hS ⊢
        refine lv_aload_n hx hb (dk_at dkX12_runs 20 rfl) rfl (lv_at hl 0 rfl) ?_
        refine va_calli (va_runV (As := []) (rest := []) ⟨hx, hb, hml, hown, hts⟩ (sX12_takenBits l dC dI h0 (upd (upd mi 37 y_117) 41 y_118) mr km f_123 fm_trust fm_letter fm_reportPlace fm_reportKind fm_struck fm_reportMonth fm_reportDay fm_reportKnown fm_deedMonth fm_deedDay fm_deedLong fm_deedKind fm_kept fm_tape f_119 f_120 f_121 f_122 f_124 fm_official fm_aside fm_worth fm_out gmi_0 gmi_1 gmi_2 gmi_4 gmi_7 gmi_10 gmi_17 gmi_23 gmi_24 gmi_26 gmi_29 gmi_30 gmi_33 gy_117 gy_118 gmi_50 gmi_51 gmi_56) (cwV 0 hts (gz_gV mGB_327 mGB_328 mGB_329 mGB_1 mGB_330 goodGB) rfl rfl rfl hdV_X12_takenBits_X12_0 ⟨Nat.le_of_ble_eq_true rfl, Nat.le_of_ble_eq_true rfl⟩) ⟨bl_R, mw_recv hK hP, fun U hU hW => ⟨rfl, by rw [hU]; exact hP, va_K.moved hW.alike hK⟩⟩ rfl rfl hl.1 rfl (lv_room (Nat.le_of_ble_eq_true rfl)) (dk_at dkX12_runs 21 rfl) ⟨Nat.zero_le _, Nat.zero_le _⟩) hS (fun q _ h => h.elim) (fun q h => h.elim) (fun r_125 u t H1 locs ht hvm hw hB hz1 hk1 hS => ?_)
        clear hz1
        obtain ⟨hw, hE⟩ := hw
        have hP := gz_keep hP hk1
        have hF := gf_callm (a := r_125) hE hF (by first | with_reducible rfl | simp only [upd_same, upd_app, ↓reduceIte, Nat.reduceEqDiff])
        generalize H1 = H at hP hS ⊢
        refine lv_istore_n (lv' := [(3, .int r_125), (0, .ref h0), (1, .int p1), (2, .int p2)]) hx hb (dk_at dkX12_runs 22 rfl) rfl hl (by decide) rfl (fun ls hl => ?_)
        refine lv_aload_n hx hb (dk_at dkX12_runs 23 rfl) rfl (lv_at hl 1 rfl) ?_
        refine va_get (D := (dC, dI)) (ci := 12) (v := .int (mi 1)) (C := RX12) (T := TX12) (N := 57) hx hb hts (fun w h => List.mem_cons_of_mem _ (jnGB_X12 w h)) hown hK hP 0 rfl rfl 1 (by decide) (hts _ (List.mem_cons_of_mem _ mGB_104)) (fun _ h9 => h9) rfl (dk_at dkX12_runs 24 rfl) ?_
        refine lv_istore (lv' := [(4, .int (mi 1)), (3, .int r_125), (0, .ref h0), (1, .int p1), (2, .int p2)]) hx hb (dk_at dkX12_runs 25 rfl) hl (by decide) rfl (fun ls hl => ?_)
        refine lv_aload_n hx hb (dk_at dkX12_runs 26 rfl) rfl (lv_at hl 2 rfl) ?_
        refine va_get (D := (dC, dI)) (ci := 12) (v := .int (mi 2)) (C := RX12) (T := TX12) (N := 57) hx hb hts (fun w h => List.mem_cons_of_mem _ (jnGB_X12 w h)) hown hK hP 0 rfl rfl 2 (by decide) (hts _ (List.mem_cons_of_mem _ mGB_105)) (fun _ h9 => h9) rfl (dk_at dkX12_runs 27 rfl) ?_
        refine lv_istore (lv' := [(5, .int (mi 2)), (4, .int (mi 1)), (3, .int r_125), (0, .ref h0), (1, .int p1), (2, .int p2)]) hx hb (dk_at dkX12_runs 28 rfl) hl (by decide) rfl (fun ls hl => ?_)
        refine lv_aload_n hx hb (dk_at dkX12_runs 29 rfl) rfl (lv_at hl 3 rfl) ?_
        refine lv_iload_n hx hb (dk_at dkX12_runs 30 rfl) rfl (lv_at hl 4 rfl) ?_
        refine va_put (D := (dC, dI)) (ci := 12) (v := .int p1) (ty := .int) (C := RX12) (T := TX12) (N := 57) hx hb hts (fun w h => List.mem_cons_of_mem _ (jnGB_X12 w h)) tyX12 tyX12_ok nmX12 hown hK hP hD hS 0 rfl rfl 1 (by decide) (hts _ (List.mem_cons_of_mem _ mGB_104)) (fun _ h9 => h9) rfl fdX12_1 rfl rfl (Nat.le_of_ble_eq_true rfl) (dk_at dkX12_runs 31 rfl) (fun H locs hP hD hS => ?_)
        obtain ⟨hP, hD⟩ := gz_both (w := (MWn h0 mr km (mi 0) p1 (mi 2) (mi 3) (mi 4) (mi 5) (mi 6) (mi 7) (mi 10) (mi 17) (mi 23) (mi 24) (mi 26) (mi 27) (mi 28) (mi 29) (mi 30) (mi 31) (mi 32) (mi 33) y_117 y_118 (mi 42) (mi 43) (mi 44) (mi 45) (mi 47) (mi 48) (mi 49) (mi 50) (mi 51) (mi 54) (mi 56) fm_trust fm_letter fm_reportPlace fm_reportKind fm_struck fm_reportMonth fm_reportDay fm_reportKnown fm_deedMonth fm_deedDay fm_deedLong fm_deedKind fm_kept fm_tape f_119 f_120 f_121 f_122 f_123 f_124 fm_official fm_aside fm_worth fm_out)) hP hD
        refine lv_aload_n hx hb (dk_at dkX12_runs 32 rfl) rfl (lv_at hl 3 rfl) ?_
        refine lv_iload_n hx hb (dk_at dkX12_runs 33 rfl) rfl (lv_at hl 5 rfl) ?_
        refine va_put (D := (dC, dI)) (ci := 12) (v := .int p2) (ty := .int) (C := RX12) (T := TX12) (N := 57) hx hb hts (fun w h => List.mem_cons_of_mem _ (jnGB_X12 w h)) tyX12 tyX12_ok nmX12 hown hK hP hD hS 0 rfl rfl 2 (by decide) (hts _ (List.mem_cons_of_mem _ mGB_105)) (fun _ h9 => h9) rfl fdX12_2 rfl rfl (Nat.le_of_ble_eq_true rfl) (dk_at dkX12_runs 34 rfl) (fun H locs hP hD hS => ?_)
        obtain ⟨hP, hD⟩ := gz_both (w := (MWn h0 mr km (mi 0) p1 p2 (mi 3) (mi 4) (mi 5) (mi 6) (mi 7) (mi 10) (mi 17) (mi 23) (mi 24) (mi 26) (mi 27) (mi 28) (mi 29) (mi 30) (mi 31) (mi 32) (mi 33) y_117 y_118 (mi 42) (mi 43) (mi 44) (mi 45) (mi 47) (mi 48) (mi 49) (mi 50) (mi 51) (mi 54) (mi 56) fm_trust fm_letter fm_reportPlace fm_reportKind fm_struck fm_reportMonth fm_reportDay fm_reportKnown fm_deedMonth fm_deedDay fm_deedLong fm_deedKind fm_kept fm_tape f_119 f_120 f_121 f_122 f_123 f_124 fm_official fm_aside fm_worth fm_out)) hP hD
        refine lv_aload_n hx hb (dk_at dkX12_runs 35 rfl) rfl (lv_at hl 3 rfl) ?_
        refine lv_sipush (v := 999) hx hb (dk_at dkX12_runs 36 rfl) (by decide) ?_
        have hFc := gz_fullF hD hS hA
        refine va_callv (va_runV (As := [.int 999]) (rest := []) ⟨hx, hb, hml, hown, hts⟩ (sX12_judgesAll l dC dI H.size h0 (upd (upd (upd (upd mi 1 p1) 2 p2) 37 y_117) 41 y_118) mr km f_119 f_120 f_121 f_122 f_123 f_124 fm_struck fm_reportKnown fm_reportPlace fm_reportMonth fm_reportDay fm_reportKind fm_trust fm_letter fm_deedMonth fm_deedDay fm_deedLong fm_deedKind fm_kept fm_tape fm_official fm_aside fm_worth fm_out 999 gmi_0 (gi_w g_108 (by decide)) (gi_w g_115 (by decide)) gmi_4 gmi_7 gmi_10 gmi_17 gmi_23 gmi_24 gmi_26 gmi_29 gmi_30 gmi_33 gy_117 gy_118 gmi_50 gmi_51 gmi_56 gf_124 gfm_struck gfm_reportKnown gfm_reportPlace gfm_reportMonth gfm_reportDay) (cwV 1 hts (gz_gV mGB_261 mGB_262 mGB_263 mGB_1 mGB_264 goodGB) rfl rfl rfl hdV_X12_judgesAll_X12_1 ⟨Nat.le_of_ble_eq_true rfl, Nat.le_of_ble_eq_true rfl⟩) ⟨bl_W, mw_recv hK hP, fun U hU hW => ⟨rfl, by rw [hU], by rw [hU]; exact hP, va_K.moved hW.alike hK, hD.weaken (fun _ _ _ _ => trivial)⟩⟩ rfl rfl hl.1 rfl (lv_room (Nat.le_of_ble_eq_true rfl)) (dk_at dkX12_runs 37 rfl) ⟨Nat.zero_le _, Nat.zero_le _⟩) hS (fun q _ h => hFc q h) hFc (fun u t H1 locs ht hvm hw hB hz1 hk1 hS => ?_)
        clear hz1
        obtain ⟨y_127, y_128, f_129, f_130, f_131, f_132, f_133, f_134, hB⟩ := hB
        obtain ⟨gy_127, gy_128, gf_134, hE, hP1, hD1⟩ := hB
        rw [ht] at hP1
        have hD : va_D A (MWn h0 mr km (mi 0) p1 p2 (mi 3) (mi 4) (mi 5) (mi 6) (mi 7) (mi 10) (mi 17) (mi 23) (mi 24) (mi 26) (mi 27) (mi 28) (mi 29) (mi 30) (mi 31) (mi 32) (mi 33) y_127 y_128 (mi 42) (mi 43) (mi 44) (mi 45) (mi 47) (mi 48) (mi 49) (mi 50) (mi 51) (mi 54) (mi 56) fm_trust fm_letter fm_reportPlace fm_reportKind fm_struck fm_reportMonth fm_reportDay fm_reportKnown fm_deedMonth fm_deedDay fm_deedLong fm_deedKind fm_kept fm_tape f_129 f_130 f_131 f_132 f_133 f_134 fm_official fm_aside fm_worth fm_out) := gz_fullD hFc hD1
        have hP : va_P (dC, dI) vwCl (MWn h0 mr km (mi 0) p1 p2 (mi 3) (mi 4) (mi 5) (mi 6) (mi 7) (mi 10) (mi 17) (mi 23) (mi 24) (mi 26) (mi 27) (mi 28) (mi 29) (mi 30) (mi 31) (mi 32) (mi 33) y_127 y_128 (mi 42) (mi 43) (mi 44) (mi 45) (mi 47) (mi 48) (mi 49) (mi 50) (mi 51) (mi 54) (mi 56) fm_trust fm_letter fm_reportPlace fm_reportKind fm_struck fm_reportMonth fm_reportDay fm_reportKnown fm_deedMonth fm_deedDay fm_deedLong fm_deedKind fm_kept fm_tape f_129 f_130 f_131 f_132 f_133 f_134 fm_official fm_aside fm_worth fm_out) H1 := hP1
        have hF := gf_callm (a := (y_127, y_128, f_129, f_130, f_131, f_132, f_133, f_134)) hE hF (by first | with_reducible rfl | simp only [upd_same, upd_app, ↓reduceIte, Nat.reduceEqDiff])
        generalize H1 = H at hP hS ⊢
        refine lv_aload_n hx hb (dk_at dkX12_runs 38 rfl) rfl (lv_at hl 3 rfl) ?_
        refine va_calli (va_runV (As := []) (rest := []) ⟨hx, hb, hml, hown, hts⟩ (sX12_takenBits l dC dI h0 (upd (upd (upd (upd mi 1 p1) 2 p2) 37 y_127) 41 y_128) mr km f_133 fm_trust fm_letter fm_reportPlace fm_reportKind fm_struck fm_reportMonth fm_reportDay fm_reportKnown fm_deedMonth fm_deedDay fm_deedLong fm_deedKind fm_kept fm_tape f_129 f_130 f_131 f_132 f_134 fm_official fm_aside fm_worth fm_out gmi_0 (gi_w g_108 (by decide)) (gi_w g_115 (by decide)) gmi_4 gmi_7 gmi_10 gmi_17 gmi_23 gmi_24 gmi_26 gmi_29 gmi_30 gmi_33 gy_127 gy_128 gmi_50 gmi_51 gmi_56) (cwV 0 hts (gz_gV mGB_327 mGB_328 mGB_329 mGB_1 mGB_330 goodGB) rfl rfl rfl hdV_X12_takenBits_X12_0 ⟨Nat.le_of_ble_eq_true rfl, Nat.le_of_ble_eq_true rfl⟩) ⟨bl_R, mw_recv hK hP, fun U hU hW => ⟨rfl, by rw [hU]; exact hP, va_K.moved hW.alike hK⟩⟩ rfl rfl hl.1 rfl (lv_room (Nat.le_of_ble_eq_true rfl)) (dk_at dkX12_runs 39 rfl) ⟨Nat.zero_le _, Nat.zero_le _⟩) hS (fun q _ h => h.elim) (fun q h => h.elim) (fun r_135 u t H1 locs ht hvm hw hB hz1 hk1 hS => ?_)
        clear hz1
        obtain ⟨hw, hE⟩ := hw
        have hP := gz_keep hP hk1
        have hF := gf_callm (a := r_135) hE hF (by first | with_reducible rfl | simp only [upd_same, upd_app, ↓reduceIte, Nat.reduceEqDiff])
        generalize H1 = H at hP hS ⊢
        refine lv_iload_n hx hb (dk_at dkX12_runs 40 rfl) rfl (lv_at hl 2 rfl) ?_
        refine lv_icmp_ne (tgt := 85) hx hb (dk_at dkX12_runs 41 rfl) (by decide) (fun c_136 => ?_) (fun c_136 => ?_)
        · have hF := gf_neg c_136 hF
          have hc_137 : r_135.toInt ≠ r_125.toInt := fun h9 => c_136 (Int32.toInt_inj.mp (by exact h9))
          refine lv_aload_n hx hb (dk_at dkX12_runs 44 rfl) rfl (lv_at hl 3 rfl) ?_
          refine lv_iload hx hb (dk_at dkX12_runs 45 rfl) (lv_at hl 1 rfl) ?_
          refine va_put (D := (dC, dI)) (ci := 12) (v := .int (mi 1)) (ty := .int) (C := RX12) (T := TX12) (N := 57) hx hb hts (fun w h => List.mem_cons_of_mem _ (jnGB_X12 w h)) tyX12 tyX12_ok nmX12 hown hK hP hD hS 0 rfl rfl 1 (by decide) (hts _ (List.mem_cons_of_mem _ mGB_104)) (fun _ h9 => h9) rfl fdX12_1 rfl rfl (Nat.le_of_ble_eq_true rfl) (dk_at dkX12_runs 46 rfl) (fun H locs hP hD hS => ?_)
          obtain ⟨hP, hD⟩ := gz_both (w := (MWn h0 mr km (mi 0) (mi 1) p2 (mi 3) (mi 4) (mi 5) (mi 6) (mi 7) (mi 10) (mi 17) (mi 23) (mi 24) (mi 26) (mi 27) (mi 28) (mi 29) (mi 30) (mi 31) (mi 32) (mi 33) y_127 y_128 (mi 42) (mi 43) (mi 44) (mi 45) (mi 47) (mi 48) (mi 49) (mi 50) (mi 51) (mi 54) (mi 56) fm_trust fm_letter fm_reportPlace fm_reportKind fm_struck fm_reportMonth fm_reportDay fm_reportKnown fm_deedMonth fm_deedDay fm_deedLong fm_deedKind fm_kept fm_tape f_129 f_130 f_131 f_132 f_133 f_134 fm_official fm_aside fm_worth fm_out)) hP hD
          refine lv_aload_n hx hb (dk_at dkX12_runs 47 rfl) rfl (lv_at hl 3 rfl) ?_
          refine lv_iload hx hb (dk_at dkX12_runs 48 rfl) (lv_at hl 0 rfl) ?_
          refine va_put (D := (dC, dI)) (ci := 12) (v := .int (mi 2)) (ty := .int) (C := RX12) (T := TX12) (N := 57) hx hb hts (fun w h => List.mem_cons_of_mem _ (jnGB_X12 w h)) tyX12 tyX12_ok nmX12 hown hK hP hD hS 0 rfl rfl 2 (by decide) (hts _ (List.mem_cons_of_mem _ mGB_105)) (fun _ h9 => h9) rfl fdX12_2 rfl rfl (Nat.le_of_ble_eq_true rfl) (dk_at dkX12_runs 49 rfl) (fun H locs hP hD hS => ?_)
          obtain ⟨hP, hD⟩ := gz_both (w := (MWn h0 mr km (mi 0) (mi 1) (mi 2) (mi 3) (mi 4) (mi 5) (mi 6) (mi 7) (mi 10) (mi 17) (mi 23) (mi 24) (mi 26) (mi 27) (mi 28) (mi 29) (mi 30) (mi 31) (mi 32) (mi 33) y_127 y_128 (mi 42) (mi 43) (mi 44) (mi 45) (mi 47) (mi 48) (mi 49) (mi 50) (mi 51) (mi 54) (mi 56) fm_trust fm_letter fm_reportPlace fm_reportKind fm_struck fm_reportMonth fm_reportDay fm_reportKnown fm_deedMonth fm_deedDay fm_deedLong fm_deedKind fm_kept fm_tape f_129 f_130 f_131 f_132 f_133 f_134 fm_official fm_aside fm_worth fm_out)) hP hD
          refine lv_bipush (v := (-5)) hx hb (dk_at dkX12_runs 50 rfl) (by decide) ?_
          exact W.iret (v := (-5)) hx hb hr (fun t ht hW => ⟨⟨(-5), (-5), rfl, ⟨rfl, (gi_w (gi_c (-5) (-5) (by decide)) (by decide))⟩, (mi 1), (mi 2), y_127, y_128, f_129, f_130, f_131, f_132, f_133, f_134, gmi_1, gmi_2, gy_127, gy_128, gf_134, hpq0, hF.trans hR9.symm, by rw [ht]; exact hP, hD⟩, hS.F ht⟩) hS.2.2 (dk_at dkX12_runs 51 rfl)
        · have hF := gf_pos c_136 hF
          have hc_138 : r_135.toInt = r_125.toInt := by have h9 := congrArg Int32.toInt c_136; exact h9
          refine lv_iconst (v := 0) hx hb (dk_at dkX12_runs 42 rfl) (by decide) ?_
          exact W.iret (v := 0) hx hb hr (fun t ht hW => ⟨⟨0, 0, rfl, ⟨rfl, (gi_w (gi_c 0 0 (by decide)) (by decide))⟩, p1, p2, y_127, y_128, f_129, f_130, f_131, f_132, f_133, f_134, (gi_w g_108 (by decide)), (gi_w g_115 (by decide)), gy_127, gy_128, gf_134, (show ((mi 3).toInt = 0 ∨ (2 ≤ (mi 0).toInt ∧ (mi 0).toInt ≤ 24 ∧ 1 ≤ p1.toInt ∧ p1.toInt ≤ 5 ∧ 1 ≤ p2.toInt ∧ p2.toInt ≤ 5)) from by have qgp2 := g_115.1; have rgp2 := g_115.2; have qgp1 := g_108.1; have rgp1 := g_108.2; have qgmi_2 := gmi_2.1; have rgmi_2 := gmi_2.2; have qgmi_1 := gmi_1.1; have rgmi_1 := gmi_1.2; have qgmi_0 := gmi_0.1; have rgmi_0 := gmi_0.2; omega), hF.trans hR9.symm, by rw [ht]; exact hP, hD⟩, hS.F ht⟩) hS.2.2 (dk_at dkX12_runs 43 rfl)
      · have hF := gf_pos c_111 hF
        have hc_139 : r_110.toInt = 0 := by have h9 := congrArg Int32.toInt c_111; rw [show (0 : Int32).toInt = 0 from by decide] at h9; exact h9
        have g_140 : gi r_110 0 0 := gi_eq c_111 (gi_c 0 0 (by decide))
        have hno_141 := gz_inF (A := 1) (B := 5) (hqr_110.2 (gz_zero1 g_140)) el_109 (by decide) (by decide)
        refine lv_bipush (v := (-2)) hx hb (dk_at dkX12_runs 15 rfl) (by decide) ?_
        exact W.iret (v := (-2)) hx hb hr (fun t ht hW => ⟨⟨(-2), (-2), rfl, ⟨rfl, (gi_w (gi_c (-2) (-2) (by decide)) (by decide))⟩, (mi 1), (mi 2), (mi 37), (mi 41), fm_must, fm_least, fm_pin, fm_ways, fm_verdict, fm_row, gmi_1, gmi_2, gmi_37, gmi_41, gfm_row, hpq0, hF.trans hR9.symm, by rw [ht]; exact hP, hD⟩, hS.F ht⟩) hS.2.2 (dk_at dkX12_runs 16 rfl)
noncomputable def mt_octet (mi : Nat → Int32) (fm : Nat → Nat → Int32) (o : Int32) : Int32 × (Nat → Int32) × (Nat → Nat → Int32) := (o, mi, fm)
noncomputable def ms_octet (mi : Nat → Int32) (fm : Nat → Nat → Int32) (p1 : Int32) : Int32 × (Nat → Int32) × (Nat → Nat → Int32) := mt_octet mi fm (fX12_octet mi (fm 23) p1)
set_option maxHeartbeats 4000000 in
set_option maxRecDepth 100000 in
theorem uX12_octet (l : Launch) (dC : Nat → ClassId) (dI : Nat → Nat → Nat) (sz : Nat) (hm : Nat) (mi : Nat → Int32) (mr : Nat → Nat) (km : Nat → ClassId) (fm : Nat → Nat → Int32) (hI : MI mi fm) (p1 : Int32) : Met l yX12_octet (.code yX12_octet cX12_octet 2 (some .int) :: wsGB) ({ frames := 1, cells := 0, slots := 0, locals := 25 }) (va_Pc [.ref hm, .int p1] (fun U => U.heap.size = sz ∧ va_P (dC, dI) vwCl (MW hm mi mr km fm) U.heap ∧ va_K (dC, dI) vwCl (MT km) U ∧ va_D (fun _ => True) (MW hm mi mr km fm))) (va_Qi (fun (r : Int32) (u : Int32) => r = u) (fun r t => MB dC dI hm mi mr km fm sz (fun v f => (r, v, f) = ms_octet mi fm p1) t) (va_A (MW hm mi mr km fm) sz)) 0 0 (va_A (MW hm mi mr km fm) sz) := by
  refine gz_mono (sX12_octet l dC dI hm mi mr km (fm 23) (fm 0) (fm 1) (fm 2) (fm 3) (fm 4) (fm 5) (fm 6) (fm 7) (fm 8) (fm 9) (fm 10) (fm 11) (fm 12) (fm 13) (fm 14) (fm 15) (fm 16) (fm 17) (fm 18) (fm 19) (fm 20) (fm 21) (fm 22) p1 hI.1 hI.2.1 hI.2.2.1 hI.2.2.2.1 hI.2.2.2.2.1 hI.2.2.2.2.2.1 hI.2.2.2.2.2.2.1 hI.2.2.2.2.2.2.2.1 hI.2.2.2.2.2.2.2.2.1 hI.2.2.2.2.2.2.2.2.2.1 hI.2.2.2.2.2.2.2.2.2.2.1 hI.2.2.2.2.2.2.2.2.2.2.2.1 hI.2.2.2.2.2.2.2.2.2.2.2.2.2.1 hI.2.2.2.2.2.2.2.2.2.2.2.2.2.2.1 hI.2.2.2.2.2.2.2.2.2.2.2.2.2.2.2.1 hI.2.2.2.2.2.2.2.2.2.2.2.2.2.2.2.2.1 hI.2.2.2.2.2.2.2.2.2.2.2.2.2.2.2.2.2.1 hI.2.2.2.2.2.2.2.2.2.2.2.2.2.2.2.2.2.2.1) ?_ ?_ ?_
  · rintro args s ⟨rfl, hsz, hP, hK, hD⟩
    exact ⟨rfl, hP, hK⟩
  · rintro args s o t ⟨rfl, hsz, hP, hK, hD⟩ ⟨⟨r, u, ho, hw, hB⟩, hF⟩
    subst hsz
    exact ⟨⟨r, r, ho, rfl, mi, fm, hI, congrArg (mt_octet mi fm) hw.2, gz_keep hP hF.2, hD.self⟩, hF.1, fun q h1 h2 => hF.2 q h1 (fun h => h.elim)⟩
  · exact fun q h => h.elim
noncomputable def mt_reports (mi : Nat → Int32) (fm : Nat → Nat → Int32) (o : Int32 × Int32 × (Nat → Int32) × (Nat → Int32) × (Nat → Int32) × (Nat → Int32) × (Nat → Int32) × (Nat → Int32)) : Int32 × (Nat → Int32) × (Nat → Nat → Int32) := (o.1, (upd mi 10 o.2.1), (updF (updF (updF (updF (updF (updF fm 2 o.2.2.1) 3 o.2.2.2.1) 5 o.2.2.2.2.1) 6 o.2.2.2.2.2.1) 7 o.2.2.2.2.2.2.1) 4 o.2.2.2.2.2.2.2))
noncomputable def ms_reports (mi : Nat → Int32) (fm : Nat → Nat → Int32) (p1 : Int32) (p2 : Int32) (p3 : Int32) (p4 : Int32) (p5 : Int32) : Int32 × (Nat → Int32) × (Nat → Nat → Int32) := mt_reports mi fm (fX12_reports mi (fm 2) (fm 3) (fm 5) (fm 6) (fm 7) (fm 4) p1 p2 p3 p4 p5)
set_option maxHeartbeats 4000000 in
set_option maxRecDepth 100000 in
theorem uX12_reports (l : Launch) (dC : Nat → ClassId) (dI : Nat → Nat → Nat) (sz : Nat) (hm : Nat) (mi : Nat → Int32) (mr : Nat → Nat) (km : Nat → ClassId) (fm : Nat → Nat → Int32) (hI : MI mi fm) (p1 : Int32) (p2 : Int32) (p3 : Int32) (p4 : Int32) (p5 : Int32) : Met l yX12_reports (.code yX12_reports cX12_reports 6 (some .int) :: wsGB) ({ frames := 2, cells := 0, slots := 0, locals := 46 }) (va_Pc [.ref hm, .int p1, .int p2, .int p3, .int p4, .int p5] (fun U => U.heap.size = sz ∧ va_P (dC, dI) vwCl (MW hm mi mr km fm) U.heap ∧ va_K (dC, dI) vwCl (MT km) U ∧ va_D (fun _ => True) (MW hm mi mr km fm))) (va_Qi (fun (r : Int32) (u : Int32) => r = u) (fun r t => MB dC dI hm mi mr km fm sz (fun v f => (r, v, f) = ms_reports mi fm p1 p2 p3 p4 p5) t) (va_A (MW hm mi mr km fm) sz)) 0 0 (va_A (MW hm mi mr km fm) sz) := by
  refine gz_mono (sX12_reports l dC dI sz hm mi mr km (fm 2) (fm 3) (fm 5) (fm 6) (fm 7) (fm 4) (fm 0) (fm 1) (fm 8) (fm 9) (fm 10) (fm 11) (fm 12) (fm 13) (fm 14) (fm 15) (fm 16) (fm 17) (fm 18) (fm 19) (fm 20) (fm 21) (fm 22) (fm 23) p1 p2 p3 p4 p5 hI.1 hI.2.1 hI.2.2.1 hI.2.2.2.1 hI.2.2.2.2.1 hI.2.2.2.2.2.1 hI.2.2.2.2.2.2.1 hI.2.2.2.2.2.2.2.1 hI.2.2.2.2.2.2.2.2.1 hI.2.2.2.2.2.2.2.2.2.1 hI.2.2.2.2.2.2.2.2.2.2.1 hI.2.2.2.2.2.2.2.2.2.2.2.1 hI.2.2.2.2.2.2.2.2.2.2.2.2.2.1 hI.2.2.2.2.2.2.2.2.2.2.2.2.2.2.1 hI.2.2.2.2.2.2.2.2.2.2.2.2.2.2.2.1 hI.2.2.2.2.2.2.2.2.2.2.2.2.2.2.2.2.1 hI.2.2.2.2.2.2.2.2.2.2.2.2.2.2.2.2.2.1 hI.2.2.2.2.2.2.2.2.2.2.2.2.2.2.2.2.2.2.1 hI.2.2.2.2.2.2.2.2.2.2.2.2.2.2.2.2.2.2.2.1 hI.2.2.2.2.2.2.2.2.2.2.2.2.2.2.2.2.2.2.2.2.2.1 hI.2.2.2.2.2.2.2.2.2.2.2.2.2.2.2.2.2.2.2.2.2.2.1 hI.2.2.2.2.2.2.2.2.2.2.2.2.2.2.2.2.2.2.2.2.2.2.2.1 hI.2.2.2.2.2.2.2.2.2.2.2.2.2.2.2.2.2.2.2.2.1) ?_ ?_ ?_
  · rintro args s ⟨rfl, hsz, hP, hK, hD⟩
    exact ⟨rfl, hsz, hP, hK, hD⟩
  · rintro args s o t ⟨rfl, hsz, hP, hK, hD⟩ ⟨⟨r, u, ho, hw, hB⟩, hF⟩
    obtain ⟨w0_10, z1, z2, z3, z4, z5, z6, hB⟩ := hB
    obtain ⟨gw0_10, gz1, gz3, gz4, gz5, gz6, hE, hP1, hD1⟩ := hB
    obtain ⟨hu9, hw⟩ := hw
    subst hu9
    subst hsz
    exact ⟨⟨r, r, ho, rfl, (upd mi 10 w0_10), (updF (updF (updF (updF (updF (updF fm 2 z1) 3 z2) 5 z3) 6 z4) 7 z5) 4 z6), ⟨hI.1, hI.2.1, hI.2.2.1, hI.2.2.2.1, hI.2.2.2.2.1, gw0_10, hI.2.2.2.2.2.2.1, hI.2.2.2.2.2.2.2.1, hI.2.2.2.2.2.2.2.2.1, hI.2.2.2.2.2.2.2.2.2.1, hI.2.2.2.2.2.2.2.2.2.2.1, hI.2.2.2.2.2.2.2.2.2.2.2.1, hI.2.2.2.2.2.2.2.2.2.2.2.2.1, hI.2.2.2.2.2.2.2.2.2.2.2.2.2.1, hI.2.2.2.2.2.2.2.2.2.2.2.2.2.2.1, hI.2.2.2.2.2.2.2.2.2.2.2.2.2.2.2.1, hI.2.2.2.2.2.2.2.2.2.2.2.2.2.2.2.2.1, hI.2.2.2.2.2.2.2.2.2.2.2.2.2.2.2.2.2.1, hI.2.2.2.2.2.2.2.2.2.2.2.2.2.2.2.2.2.2.1, gz1, gz6, gz3, gz4, gz5, hI.2.2.2.2.2.2.2.2.2.2.2.2.2.2.2.2.2.2.2.2.2.2.2.2.1, hI.2.2.2.2.2.2.2.2.2.2.2.2.2.2.2.2.2.2.2.2.2.2.2.2.2.1, hI.2.2.2.2.2.2.2.2.2.2.2.2.2.2.2.2.2.2.2.2.2.2.2.2.2.2.1, hI.2.2.2.2.2.2.2.2.2.2.2.2.2.2.2.2.2.2.2.2.2.2.2.2.2.2.2.1, hI.2.2.2.2.2.2.2.2.2.2.2.2.2.2.2.2.2.2.2.2.2.2.2.2.2.2.2.2⟩, congrArg (mt_reports mi fm) hE, hP1, hD1⟩, hF⟩
  · exact fun q h => h
noncomputable def mt_strikes (mi : Nat → Int32) (fm : Nat → Nat → Int32) (o : Int32 × (Nat → Int32)) : Int32 × (Nat → Int32) × (Nat → Nat → Int32) := (o.1, mi, (updF fm 4 o.2))
noncomputable def ms_strikes (mi : Nat → Int32) (fm : Nat → Nat → Int32) (p1 : Int32) : Int32 × (Nat → Int32) × (Nat → Nat → Int32) := mt_strikes mi fm (fX12_strikes mi (fm 4) p1)
set_option maxHeartbeats 4000000 in
set_option maxRecDepth 100000 in
theorem uX12_strikes (l : Launch) (dC : Nat → ClassId) (dI : Nat → Nat → Nat) (sz : Nat) (hm : Nat) (mi : Nat → Int32) (mr : Nat → Nat) (km : Nat → ClassId) (fm : Nat → Nat → Int32) (hI : MI mi fm) (p1 : Int32) : Met l yX12_strikes (.code yX12_strikes cX12_strikes 4 (some .int) :: wsGB) ({ frames := 2, cells := 0, slots := 0, locals := 46 }) (va_Pc [.ref hm, .int p1] (fun U => U.heap.size = sz ∧ va_P (dC, dI) vwCl (MW hm mi mr km fm) U.heap ∧ va_K (dC, dI) vwCl (MT km) U ∧ va_D (fun _ => True) (MW hm mi mr km fm))) (va_Qi (fun (r : Int32) (u : Int32) => r = u) (fun r t => MB dC dI hm mi mr km fm sz (fun v f => (r, v, f) = ms_strikes mi fm p1) t) (va_A (MW hm mi mr km fm) sz)) 0 0 (va_A (MW hm mi mr km fm) sz) := by
  refine gz_mono (sX12_strikes l dC dI sz hm mi mr km (fm 4) (fm 0) (fm 1) (fm 2) (fm 3) (fm 5) (fm 6) (fm 7) (fm 8) (fm 9) (fm 10) (fm 11) (fm 12) (fm 13) (fm 14) (fm 15) (fm 16) (fm 17) (fm 18) (fm 19) (fm 20) (fm 21) (fm 22) (fm 23) p1 hI.1 hI.2.1 hI.2.2.1 hI.2.2.2.1 hI.2.2.2.2.1 hI.2.2.2.2.2.1 hI.2.2.2.2.2.2.1 hI.2.2.2.2.2.2.2.1 hI.2.2.2.2.2.2.2.2.1 hI.2.2.2.2.2.2.2.2.2.1 hI.2.2.2.2.2.2.2.2.2.2.1 hI.2.2.2.2.2.2.2.2.2.2.2.1 hI.2.2.2.2.2.2.2.2.2.2.2.2.2.1 hI.2.2.2.2.2.2.2.2.2.2.2.2.2.2.1 hI.2.2.2.2.2.2.2.2.2.2.2.2.2.2.2.1 hI.2.2.2.2.2.2.2.2.2.2.2.2.2.2.2.2.1 hI.2.2.2.2.2.2.2.2.2.2.2.2.2.2.2.2.2.1 hI.2.2.2.2.2.2.2.2.2.2.2.2.2.2.2.2.2.2.1 hI.2.2.2.2.2.2.2.2.2.2.2.2.2.2.2.2.2.2.2.2.1) ?_ ?_ ?_
  · rintro args s ⟨rfl, hsz, hP, hK, hD⟩
    exact ⟨rfl, hsz, hP, hK, hD⟩
  · rintro args s o t ⟨rfl, hsz, hP, hK, hD⟩ ⟨⟨r, u, ho, hw, hB⟩, hF⟩
    obtain ⟨z1, hB⟩ := hB
    obtain ⟨gz1, hE, hP1, hD1⟩ := hB
    obtain ⟨hu9, hw⟩ := hw
    subst hu9
    subst hsz
    exact ⟨⟨r, r, ho, rfl, mi, (updF fm 4 z1), ⟨hI.1, hI.2.1, hI.2.2.1, hI.2.2.2.1, hI.2.2.2.2.1, hI.2.2.2.2.2.1, hI.2.2.2.2.2.2.1, hI.2.2.2.2.2.2.2.1, hI.2.2.2.2.2.2.2.2.1, hI.2.2.2.2.2.2.2.2.2.1, hI.2.2.2.2.2.2.2.2.2.2.1, hI.2.2.2.2.2.2.2.2.2.2.2.1, hI.2.2.2.2.2.2.2.2.2.2.2.2.1, hI.2.2.2.2.2.2.2.2.2.2.2.2.2.1, hI.2.2.2.2.2.2.2.2.2.2.2.2.2.2.1, hI.2.2.2.2.2.2.2.2.2.2.2.2.2.2.2.1, hI.2.2.2.2.2.2.2.2.2.2.2.2.2.2.2.2.1, hI.2.2.2.2.2.2.2.2.2.2.2.2.2.2.2.2.2.1, hI.2.2.2.2.2.2.2.2.2.2.2.2.2.2.2.2.2.2.1, hI.2.2.2.2.2.2.2.2.2.2.2.2.2.2.2.2.2.2.2.1, gz1, hI.2.2.2.2.2.2.2.2.2.2.2.2.2.2.2.2.2.2.2.2.2.1, hI.2.2.2.2.2.2.2.2.2.2.2.2.2.2.2.2.2.2.2.2.2.2.1, hI.2.2.2.2.2.2.2.2.2.2.2.2.2.2.2.2.2.2.2.2.2.2.2.1, hI.2.2.2.2.2.2.2.2.2.2.2.2.2.2.2.2.2.2.2.2.2.2.2.2.1, hI.2.2.2.2.2.2.2.2.2.2.2.2.2.2.2.2.2.2.2.2.2.2.2.2.2.1, hI.2.2.2.2.2.2.2.2.2.2.2.2.2.2.2.2.2.2.2.2.2.2.2.2.2.2.1, hI.2.2.2.2.2.2.2.2.2.2.2.2.2.2.2.2.2.2.2.2.2.2.2.2.2.2.2.1, hI.2.2.2.2.2.2.2.2.2.2.2.2.2.2.2.2.2.2.2.2.2.2.2.2.2.2.2.2⟩, congrArg (mt_strikes mi fm) hE, hP1, hD1⟩, hF⟩
  · exact fun q h => h
noncomputable def mt_trusts (mi : Nat → Int32) (fm : Nat → Nat → Int32) (o : Int32 × (Nat → Int32)) : Int32 × (Nat → Int32) × (Nat → Nat → Int32) := (o.1, mi, (updF fm 0 o.2))
noncomputable def ms_trusts (mi : Nat → Int32) (fm : Nat → Nat → Int32) (p1 : Int32) (p2 : Int32) : Int32 × (Nat → Int32) × (Nat → Nat → Int32) := mt_trusts mi fm (fX12_trusts mi (fm 0) p1 p2)
set_option maxHeartbeats 4000000 in
set_option maxRecDepth 100000 in
theorem uX12_trusts (l : Launch) (dC : Nat → ClassId) (dI : Nat → Nat → Nat) (sz : Nat) (hm : Nat) (mi : Nat → Int32) (mr : Nat → Nat) (km : Nat → ClassId) (fm : Nat → Nat → Int32) (hI : MI mi fm) (p1 : Int32) (p2 : Int32) : Met l yX12_trusts (.code yX12_trusts cX12_trusts 4 (some .int) :: wsGB) ({ frames := 2, cells := 0, slots := 0, locals := 46 }) (va_Pc [.ref hm, .int p1, .int p2] (fun U => U.heap.size = sz ∧ va_P (dC, dI) vwCl (MW hm mi mr km fm) U.heap ∧ va_K (dC, dI) vwCl (MT km) U ∧ va_D (fun _ => True) (MW hm mi mr km fm))) (va_Qi (fun (r : Int32) (u : Int32) => r = u) (fun r t => MB dC dI hm mi mr km fm sz (fun v f => (r, v, f) = ms_trusts mi fm p1 p2) t) (va_A (MW hm mi mr km fm) sz)) 0 0 (va_A (MW hm mi mr km fm) sz) := by
  refine gz_mono (sX12_trusts l dC dI sz hm mi mr km (fm 0) (fm 1) (fm 2) (fm 3) (fm 4) (fm 5) (fm 6) (fm 7) (fm 8) (fm 9) (fm 10) (fm 11) (fm 12) (fm 13) (fm 14) (fm 15) (fm 16) (fm 17) (fm 18) (fm 19) (fm 20) (fm 21) (fm 22) (fm 23) p1 p2 hI.1 hI.2.1 hI.2.2.1 hI.2.2.2.1 hI.2.2.2.2.1 hI.2.2.2.2.2.1 hI.2.2.2.2.2.2.1 hI.2.2.2.2.2.2.2.1 hI.2.2.2.2.2.2.2.2.1 hI.2.2.2.2.2.2.2.2.2.1 hI.2.2.2.2.2.2.2.2.2.2.1 hI.2.2.2.2.2.2.2.2.2.2.2.1 hI.2.2.2.2.2.2.2.2.2.2.2.2.2.1 hI.2.2.2.2.2.2.2.2.2.2.2.2.2.2.1 hI.2.2.2.2.2.2.2.2.2.2.2.2.2.2.2.1 hI.2.2.2.2.2.2.2.2.2.2.2.2.2.2.2.2.1 hI.2.2.2.2.2.2.2.2.2.2.2.2.2.2.2.2.2.1 hI.2.2.2.2.2.2.2.2.2.2.2.2.2.2.2.2.2.2.1) ?_ ?_ ?_
  · rintro args s ⟨rfl, hsz, hP, hK, hD⟩
    exact ⟨rfl, hsz, hP, hK, hD⟩
  · rintro args s o t ⟨rfl, hsz, hP, hK, hD⟩ ⟨⟨r, u, ho, hw, hB⟩, hF⟩
    obtain ⟨z1, hB⟩ := hB
    obtain ⟨hE, hP1, hD1⟩ := hB
    obtain ⟨hu9, hw⟩ := hw
    subst hu9
    subst hsz
    exact ⟨⟨r, r, ho, rfl, mi, (updF fm 0 z1), ⟨hI.1, hI.2.1, hI.2.2.1, hI.2.2.2.1, hI.2.2.2.2.1, hI.2.2.2.2.2.1, hI.2.2.2.2.2.2.1, hI.2.2.2.2.2.2.2.1, hI.2.2.2.2.2.2.2.2.1, hI.2.2.2.2.2.2.2.2.2.1, hI.2.2.2.2.2.2.2.2.2.2.1, hI.2.2.2.2.2.2.2.2.2.2.2.1, hI.2.2.2.2.2.2.2.2.2.2.2.2.1, hI.2.2.2.2.2.2.2.2.2.2.2.2.2.1, hI.2.2.2.2.2.2.2.2.2.2.2.2.2.2.1, hI.2.2.2.2.2.2.2.2.2.2.2.2.2.2.2.1, hI.2.2.2.2.2.2.2.2.2.2.2.2.2.2.2.2.1, hI.2.2.2.2.2.2.2.2.2.2.2.2.2.2.2.2.2.1, hI.2.2.2.2.2.2.2.2.2.2.2.2.2.2.2.2.2.2.1, hI.2.2.2.2.2.2.2.2.2.2.2.2.2.2.2.2.2.2.2.1, hI.2.2.2.2.2.2.2.2.2.2.2.2.2.2.2.2.2.2.2.2.1, hI.2.2.2.2.2.2.2.2.2.2.2.2.2.2.2.2.2.2.2.2.2.1, hI.2.2.2.2.2.2.2.2.2.2.2.2.2.2.2.2.2.2.2.2.2.2.1, hI.2.2.2.2.2.2.2.2.2.2.2.2.2.2.2.2.2.2.2.2.2.2.2.1, hI.2.2.2.2.2.2.2.2.2.2.2.2.2.2.2.2.2.2.2.2.2.2.2.2.1, hI.2.2.2.2.2.2.2.2.2.2.2.2.2.2.2.2.2.2.2.2.2.2.2.2.2.1, hI.2.2.2.2.2.2.2.2.2.2.2.2.2.2.2.2.2.2.2.2.2.2.2.2.2.2.1, hI.2.2.2.2.2.2.2.2.2.2.2.2.2.2.2.2.2.2.2.2.2.2.2.2.2.2.2.1, hI.2.2.2.2.2.2.2.2.2.2.2.2.2.2.2.2.2.2.2.2.2.2.2.2.2.2.2.2⟩, congrArg (mt_trusts mi fm) hE, hP1, hD1⟩, hF⟩
  · exact fun q h => h
noncomputable def mt_moon (mi : Nat → Int32) (fm : Nat → Nat → Int32) (o : Int32 × Int32 × Int32 × Int32) : Int32 × (Nat → Int32) × (Nat → Nat → Int32) := (o.1, (upd (upd (upd mi 4 o.2.1) 5 o.2.2.1) 6 o.2.2.2), fm)
noncomputable def ms_moon (mi : Nat → Int32) (fm : Nat → Nat → Int32) (p1 : Int32) (p2 : Int32) : Int32 × (Nat → Int32) × (Nat → Nat → Int32) := mt_moon mi fm (fX12_moon mi p1 p2)
set_option maxHeartbeats 4000000 in
set_option maxRecDepth 100000 in
theorem uX12_moon (l : Launch) (dC : Nat → ClassId) (dI : Nat → Nat → Nat) (sz : Nat) (hm : Nat) (mi : Nat → Int32) (mr : Nat → Nat) (km : Nat → ClassId) (fm : Nat → Nat → Int32) (hI : MI mi fm) (p1 : Int32) (p2 : Int32) : Met l yX12_moon (.code yX12_moon cX12_moon 3 (some .int) :: wsGB) ({ frames := 1, cells := 0, slots := 0, locals := 25 }) (va_Pc [.ref hm, .int p1, .int p2] (fun U => U.heap.size = sz ∧ va_P (dC, dI) vwCl (MW hm mi mr km fm) U.heap ∧ va_K (dC, dI) vwCl (MT km) U ∧ va_D (fun _ => True) (MW hm mi mr km fm))) (va_Qi (fun (r : Int32) (u : Int32) => r = u) (fun r t => MB dC dI hm mi mr km fm sz (fun v f => (r, v, f) = ms_moon mi fm p1 p2) t) (va_A (MW hm mi mr km fm) sz)) 0 0 (va_A (MW hm mi mr km fm) sz) := by
  refine gz_mono (sX12_moon l dC dI sz hm mi mr km (fm 0) (fm 1) (fm 2) (fm 3) (fm 4) (fm 5) (fm 6) (fm 7) (fm 8) (fm 9) (fm 10) (fm 11) (fm 12) (fm 13) (fm 14) (fm 15) (fm 16) (fm 17) (fm 18) (fm 19) (fm 20) (fm 21) (fm 22) (fm 23) p1 p2 hI.1 hI.2.1 hI.2.2.1 hI.2.2.2.1 hI.2.2.2.2.1 hI.2.2.2.2.2.1 hI.2.2.2.2.2.2.1 hI.2.2.2.2.2.2.2.1 hI.2.2.2.2.2.2.2.2.1 hI.2.2.2.2.2.2.2.2.2.1 hI.2.2.2.2.2.2.2.2.2.2.1 hI.2.2.2.2.2.2.2.2.2.2.2.1 hI.2.2.2.2.2.2.2.2.2.2.2.2.2.1 hI.2.2.2.2.2.2.2.2.2.2.2.2.2.2.1 hI.2.2.2.2.2.2.2.2.2.2.2.2.2.2.2.1 hI.2.2.2.2.2.2.2.2.2.2.2.2.2.2.2.2.1 hI.2.2.2.2.2.2.2.2.2.2.2.2.2.2.2.2.2.1 hI.2.2.2.2.2.2.2.2.2.2.2.2.2.2.2.2.2.2.1) ?_ ?_ ?_
  · rintro args s ⟨rfl, hsz, hP, hK, hD⟩
    exact ⟨rfl, hsz, hP, hK, hD⟩
  · rintro args s o t ⟨rfl, hsz, hP, hK, hD⟩ ⟨⟨r, u, ho, hw, hB⟩, hF⟩
    obtain ⟨w0_4, w0_5, w0_6, hB⟩ := hB
    obtain ⟨gw0_4, hE, hP1, hD1⟩ := hB
    obtain ⟨hu9, hw⟩ := hw
    subst hu9
    subst hsz
    exact ⟨⟨r, r, ho, rfl, (upd (upd (upd mi 4 w0_4) 5 w0_5) 6 w0_6), fm, ⟨hI.1, hI.2.1, hI.2.2.1, gw0_4, hI.2.2.2.2.1, hI.2.2.2.2.2.1, hI.2.2.2.2.2.2.1, hI.2.2.2.2.2.2.2.1, hI.2.2.2.2.2.2.2.2.1, hI.2.2.2.2.2.2.2.2.2.1, hI.2.2.2.2.2.2.2.2.2.2.1, hI.2.2.2.2.2.2.2.2.2.2.2.1, hI.2.2.2.2.2.2.2.2.2.2.2.2.1, hI.2.2.2.2.2.2.2.2.2.2.2.2.2.1, hI.2.2.2.2.2.2.2.2.2.2.2.2.2.2.1, hI.2.2.2.2.2.2.2.2.2.2.2.2.2.2.2.1, hI.2.2.2.2.2.2.2.2.2.2.2.2.2.2.2.2.1, hI.2.2.2.2.2.2.2.2.2.2.2.2.2.2.2.2.2.1, hI.2.2.2.2.2.2.2.2.2.2.2.2.2.2.2.2.2.2.1, hI.2.2.2.2.2.2.2.2.2.2.2.2.2.2.2.2.2.2.2.1, hI.2.2.2.2.2.2.2.2.2.2.2.2.2.2.2.2.2.2.2.2.1, hI.2.2.2.2.2.2.2.2.2.2.2.2.2.2.2.2.2.2.2.2.2.1, hI.2.2.2.2.2.2.2.2.2.2.2.2.2.2.2.2.2.2.2.2.2.2.1, hI.2.2.2.2.2.2.2.2.2.2.2.2.2.2.2.2.2.2.2.2.2.2.2.1, hI.2.2.2.2.2.2.2.2.2.2.2.2.2.2.2.2.2.2.2.2.2.2.2.2.1, hI.2.2.2.2.2.2.2.2.2.2.2.2.2.2.2.2.2.2.2.2.2.2.2.2.2.1, hI.2.2.2.2.2.2.2.2.2.2.2.2.2.2.2.2.2.2.2.2.2.2.2.2.2.2.1, hI.2.2.2.2.2.2.2.2.2.2.2.2.2.2.2.2.2.2.2.2.2.2.2.2.2.2.2.1, hI.2.2.2.2.2.2.2.2.2.2.2.2.2.2.2.2.2.2.2.2.2.2.2.2.2.2.2.2⟩, congrArg (mt_moon mi fm) hE, hP1, hD1⟩, hF⟩
  · exact fun q h => h
noncomputable def mt_runs (mi : Nat → Int32) (fm : Nat → Nat → Int32) (o : Int32 × Int32 × Int32 × Int32 × Int32 × (Nat → Int32) × (Nat → Int32) × (Nat → Int32) × (Nat → Int32) × (Nat → Int32) × (Nat → Int32)) : Int32 × (Nat → Int32) × (Nat → Nat → Int32) := (o.1, (upd (upd (upd (upd mi 1 o.2.1) 2 o.2.2.1) 37 o.2.2.2.1) 41 o.2.2.2.2.1), (updF (updF (updF (updF (updF (updF fm 14 o.2.2.2.2.2.1) 15 o.2.2.2.2.2.2.1) 16 o.2.2.2.2.2.2.2.1) 17 o.2.2.2.2.2.2.2.2.1) 18 o.2.2.2.2.2.2.2.2.2.1) 19 o.2.2.2.2.2.2.2.2.2.2))
noncomputable def ms_runs (mi : Nat → Int32) (fm : Nat → Nat → Int32) (p1 : Int32) (p2 : Int32) : Int32 × (Nat → Int32) × (Nat → Nat → Int32) := mt_runs mi fm (fX12_runs mi (fm 14) (fm 15) (fm 16) (fm 17) (fm 18) (fm 19) (fm 4) (fm 7) (fm 2) (fm 5) (fm 6) (fm 3) (fm 0) (fm 1) p1 p2)
set_option maxHeartbeats 4000000 in
set_option maxRecDepth 100000 in
theorem uX12_runs (l : Launch) (dC : Nat → ClassId) (dI : Nat → Nat → Nat) (sz : Nat) (hm : Nat) (mi : Nat → Int32) (mr : Nat → Nat) (km : Nat → ClassId) (fm : Nat → Nat → Int32) (hI : MI mi fm) (p1 : Int32) (p2 : Int32) : Met l yX12_runs (.code yX12_runs cX12_runs 6 (some .int) :: wsGB) ({ frames := 5, cells := 0, slots := 0, locals := 119 }) (va_Pc [.ref hm, .int p1, .int p2] (fun U => U.heap.size = sz ∧ va_P (dC, dI) vwCl (MW hm mi mr km fm) U.heap ∧ va_K (dC, dI) vwCl (MT km) U ∧ va_D (fun _ => True) (MW hm mi mr km fm))) (va_Qi (fun (r : Int32) (u : Int32) => r = u) (fun r t => MB dC dI hm mi mr km fm sz (fun v f => (r, v, f) = ms_runs mi fm p1 p2) t) (va_A (MW hm mi mr km fm) sz)) 0 0 (va_A (MW hm mi mr km fm) sz) := by
  refine gz_mono (sX12_runsC l dC dI sz hm mi mr km (fm 14) (fm 15) (fm 16) (fm 17) (fm 18) (fm 19) (fm 4) (fm 7) (fm 2) (fm 5) (fm 6) (fm 3) (fm 0) (fm 1) (fm 8) (fm 9) (fm 10) (fm 11) (fm 12) (fm 13) (fm 20) (fm 21) (fm 22) (fm 23) p1 p2 hI.1 hI.2.1 hI.2.2.1 hI.2.2.2.1 hI.2.2.2.2.1 hI.2.2.2.2.2.1 hI.2.2.2.2.2.2.1 hI.2.2.2.2.2.2.2.1 hI.2.2.2.2.2.2.2.2.1 hI.2.2.2.2.2.2.2.2.2.1 hI.2.2.2.2.2.2.2.2.2.2.1 hI.2.2.2.2.2.2.2.2.2.2.2.1 hI.2.2.2.2.2.2.2.2.2.2.2.2.2.1 hI.2.2.2.2.2.2.2.2.2.2.2.2.2.2.1 hI.2.2.2.2.2.2.2.2.2.2.2.2.2.2.2.1 hI.2.2.2.2.2.2.2.2.2.2.2.2.2.2.2.2.1 hI.2.2.2.2.2.2.2.2.2.2.2.2.2.2.2.2.2.1 hI.2.2.2.2.2.2.2.2.2.2.2.2.2.2.2.2.2.2.1 hI.2.2.2.2.2.2.2.2.2.2.2.2.2.2.2.2.2.2.2.2.2.2.2.2.2.2.1 hI.2.2.2.2.2.2.2.2.2.2.2.2.2.2.2.2.2.2.2.2.1 hI.2.2.2.2.2.2.2.2.2.2.2.2.2.2.2.2.2.2.2.2.2.2.2.1 hI.2.2.2.2.2.2.2.2.2.2.2.2.2.2.2.2.2.2.2.1 hI.2.2.2.2.2.2.2.2.2.2.2.2.2.2.2.2.2.2.2.2.2.1 hI.2.2.2.2.2.2.2.2.2.2.2.2.2.2.2.2.2.2.2.2.2.2.1 hI.2.2.2.2.2.2.2.2.2.2.2.2.2.2.2.2.2.2.2.2.2.2.2.2.2.2.2.2) ?_ ?_ ?_
  · rintro args s ⟨rfl, hsz, hP, hK, hD⟩
    exact ⟨rfl, hsz, hP, hK, hD⟩
  · rintro args s o t ⟨rfl, hsz, hP, hK, hD⟩ ⟨⟨r, u, ho, hw, hB⟩, hF⟩
    obtain ⟨w0_1, w0_2, w0_37, w0_41, z1, z2, z3, z4, z5, z6, hB⟩ := hB
    obtain ⟨gw0_1, gw0_2, gw0_37, gw0_41, gz6, hpr0, hE, hP1, hD1⟩ := hB
    obtain ⟨hu9, hw⟩ := hw
    subst hu9
    subst hsz
    exact ⟨⟨r, r, ho, rfl, (upd (upd (upd (upd mi 1 w0_1) 2 w0_2) 37 w0_37) 41 w0_41), (updF (updF (updF (updF (updF (updF fm 14 z1) 15 z2) 16 z3) 17 z4) 18 z5) 19 z6), ⟨hI.1, gw0_1, gw0_2, hI.2.2.2.1, hI.2.2.2.2.1, hI.2.2.2.2.2.1, hI.2.2.2.2.2.2.1, hI.2.2.2.2.2.2.2.1, hI.2.2.2.2.2.2.2.2.1, hI.2.2.2.2.2.2.2.2.2.1, hI.2.2.2.2.2.2.2.2.2.2.1, hI.2.2.2.2.2.2.2.2.2.2.2.1, hI.2.2.2.2.2.2.2.2.2.2.2.2.1, hI.2.2.2.2.2.2.2.2.2.2.2.2.2.1, gw0_37, gw0_41, hI.2.2.2.2.2.2.2.2.2.2.2.2.2.2.2.2.1, hI.2.2.2.2.2.2.2.2.2.2.2.2.2.2.2.2.2.1, hI.2.2.2.2.2.2.2.2.2.2.2.2.2.2.2.2.2.2.1, hI.2.2.2.2.2.2.2.2.2.2.2.2.2.2.2.2.2.2.2.1, hI.2.2.2.2.2.2.2.2.2.2.2.2.2.2.2.2.2.2.2.2.1, hI.2.2.2.2.2.2.2.2.2.2.2.2.2.2.2.2.2.2.2.2.2.1, hI.2.2.2.2.2.2.2.2.2.2.2.2.2.2.2.2.2.2.2.2.2.2.1, hI.2.2.2.2.2.2.2.2.2.2.2.2.2.2.2.2.2.2.2.2.2.2.2.1, hI.2.2.2.2.2.2.2.2.2.2.2.2.2.2.2.2.2.2.2.2.2.2.2.2.1, hI.2.2.2.2.2.2.2.2.2.2.2.2.2.2.2.2.2.2.2.2.2.2.2.2.2.1, gz6, hI.2.2.2.2.2.2.2.2.2.2.2.2.2.2.2.2.2.2.2.2.2.2.2.2.2.2.2.1, hpr0⟩, congrArg (mt_runs mi fm) hE, hP1, hD1⟩, hF⟩
  · exact fun q h => h
theorem i32_012 {x : Int32} (h : 0 ≤ x.toInt ∧ x.toInt ≤ 2) : x = 0 ∨ x = 1 ∨ x = 2 := by
  rcases (show x.toInt = 0 ∨ x.toInt = 1 ∨ x.toInt = 2 by omega) with q | q | q
  · exact Or.inl (Int32.toInt_inj.mp (by rw [q]; decide))
  · exact Or.inr (Or.inl (Int32.toInt_inj.mp (by rw [q]; decide)))
  · exact Or.inr (Or.inr (Int32.toInt_inj.mp (by rw [q]; decide)))
theorem tx_trusts {xt : Nat → Int32} {m : Nat} (h : ∀ p, p < m → 0 ≤ (xt p).toInt ∧ (xt p).toInt ≤ 9) (cs ts hs pc p1 p2 : Int32) : ∀ p, p < m → 0 ≤ ((fX11_trusts cs ts hs pc xt p1 p2).2.2.2.2 p).toInt ∧ ((fX11_trusts cs ts hs pc xt p1 p2).2.2.2.2 p).toInt ≤ 9 := by
  intro p hp
  have k9 : (9 : Int32).toInt = 9 := by decide
  unfold fX11_trusts bfX11_trusts_18
  rw [cal_b]
  split
  · exact h p hp
  · split
    · exact h p hp
    · rename_i g1
      split
      · rename_i g2
        have g3 := i32le.mp g2
        have g4 : ¬ p2.toInt < 0 := fun q => g1 (i32lt.mpr (by rw [z32]; exact q))
        rw [k9] at g3
        show 0 ≤ (upd xt p1.toNatClampNeg p2 p).toInt ∧ (upd xt p1.toNatClampNeg p2 p).toInt ≤ 9
        unfold upd
        split
        · exact ⟨by omega, g3⟩
        · exact h p hp
      · exact h p hp
theorem drel_fl {L : Nat} {mo fu le li hm ms mp pc rc dc m0 m1 m2 m3 m4 m5 m6 m7 m10 m17 : Int32} {nm xt xp xk xm xd xn xs xa xb xl xi lt yt yp yk ym yd yn ys ya yb yl yi : Nat → Int32} (h : DRel L mo fu le li hm ms mp pc rc dc nm xt xp xk xm xd xn xs xa xb xl xi m0 m1 m2 m3 m4 m5 m6 m7 m10 m17 lt yt yp yk ym yd yn ys ya yb yl yi) (x y : Int32) : DRel L mo x y li hm ms mp pc rc dc nm xt xp xk xm xd xn xs xa xb xl xi m0 x y m3 m4 m5 m6 m7 m10 m17 lt yt yp yk ym yd yn ys ya yb yl yi := by
  obtain ⟨⟨⟨h1, -, -, h4, h5, h6, h7⟩, h8⟩, h9⟩ := h
  exact ⟨⟨⟨h1, rfl, rfl, h4, h5, h6, h7⟩, h8⟩, h9⟩
theorem drel_congr {L : Nat} {mo fu le li hm ms mp pc rc dc m0 m1 m2 m3 m4 m5 m6 m7 m10 m17 : Int32} {nm xt xp xk xm xd xn xs xa xb xl xi lt yt yp yk ym yd yn ys ya yb yl yi : Nat → Int32} {m0' m1' m2' m3' m4' m5' m6' m7' m10' m17' : Int32} {lt' yt' yp' yk' ym' yd' yn' ys' ya' yb' yl' yi' : Nat → Int32} (h : DRel L mo fu le li hm ms mp pc rc dc nm xt xp xk xm xd xn xs xa xb xl xi m0 m1 m2 m3 m4 m5 m6 m7 m10 m17 lt yt yp yk ym yd yn ys ya yb yl yi) (e0 : m0' = m0) (e1 : m1' = m1) (e2 : m2' = m2) (e3 : m3' = m3) (e4 : m4' = m4) (e5 : m5' = m5) (e6 : m6' = m6) (e7 : m7' = m7) (e10 : m10' = m10) (e17 : m17' = m17) (hl : ∀ i, i < 36 → lt' i = lt i) (ht : ∀ i, i < 6 → yt' i = yt i) (gyp : ∀ i, i < 24 → yp' i = yp i) (gyk : ∀ i, i < 24 → yk' i = yk i) (gym : ∀ i, i < 24 → ym' i = ym i) (gyd : ∀ i, i < 24 → yd' i = yd i) (gyn : ∀ i, i < 24 → yn' i = yn i) (gys : ∀ i, i < 24 → ys' i = ys i) (gya : ∀ i, i < 8 → ya' i = ya i) (gyb : ∀ i, i < 8 → yb' i = yb i) (gyl : ∀ i, i < 8 → yl' i = yl i) (gyi : ∀ i, i < 8 → yi' i = yi i) : DRel L mo fu le li hm ms mp pc rc dc nm xt xp xk xm xd xn xs xa xb xl xi m0' m1' m2' m3' m4' m5' m6' m7' m10' m17' lt' yt' yp' yk' ym' yd' yn' ys' ya' yb' yl' yi' := by
  subst e0 e1 e2 e3 e4 e5 e6 e7 e10 e17
  obtain ⟨⟨h1, ⟨m, r, d, hm, hr, hd, a1, a2, a3, a4, a5, a6, hN, hE1, hE2, hE3, hRg⟩, h3⟩, h4⟩ := h
  refine ⟨⟨h1, ⟨m, r, d, hm, hr, hd, a1, a2, a3, a4, a5, a6, ?_, ?_, ?_, ?_, hRg⟩, h3⟩, h4⟩
  · intro p hp
    obtain ⟨q1, q2⟩ := hN p hp
    refine ⟨?_, fun k hk => ?_⟩
    · rw [q1, pcod_inj]
      exact ⟨rfl, fun i _ g2 => by show pdg (lt (6 * p + i)).toInt = pdg (lt' (6 * p + i)).toInt; rw [hl (6 * p + i) (by omega)]⟩
    · rw [hl (6 * p + k) (by omega)]
      exact q2 k hk
  · intro j hj
    rw [ht j (by omega)]
    exact hE1 j hj
  · intro j hj
    obtain ⟨⟨b1, b2, b3, b4, b5, b6⟩, b7⟩ := hE2 j hj
    refine ⟨⟨?_, ?_, ?_, ?_, ?_, ?_⟩, b7⟩
    · rw [gyp j (by omega)]; exact b1
    · rw [gyk j (by omega)]; exact b2
    · rw [gym j (by omega)]; exact b3
    · rw [gyd j (by omega)]; exact b4
    · rw [gyn j (by omega)]; exact b5
    · rw [gys j (by omega)]; exact b6
  · intro j hj
    obtain ⟨b1, b2, b3, b4⟩ := hE3 j hj
    refine ⟨?_, ?_, ?_, ?_⟩
    · rw [gya j (by omega)]; exact b1
    · rw [gyb j (by omega)]; exact b2
    · rw [gyl j (by omega)]; exact b3
    · rw [gyi j (by omega)]; exact b4
def DAT (vx : Nat → Int32) (fx : Nat → Nat → Int32) (mi : Nat → Int32) (fm : Nat → Nat → Int32) : Prop := DRel 1600 (vx 11) (mi 1) (mi 2) (vx 14) (vx 15) (vx 16) (vx 17) (vx 18) (vx 19) (vx 20) (fx 22) (fx 23) (fx 24) (fx 25) (fx 26) (fx 27) (fx 28) (fx 29) (fx 30) (fx 31) (fx 32) (fx 33) (mi 0) (mi 1) (mi 2) (mi 3) (mi 4) (mi 5) (mi 6) (mi 7) (mi 10) (mi 17) (fm 1) (fm 0) (fm 2) (fm 3) (fm 5) (fm 6) (fm 7) (fm 4) (fm 8) (fm 9) (fm 10) (fm 11)
def REL2 (vx : Nat → Int32) (fx : Nat → Nat → Int32) (mi : Nat → Int32) (fm : Nat → Nat → Int32) : Prop := REL0 vx fx mi fm ∧ DAT vx fx mi fm
theorem dat_M {vx : Nat → Int32} {fx : Nat → Nat → Int32} {mi : Nat → Int32} {fm : Nat → Nat → Int32} (h : DAT vx fx mi fm) : (0 < (mi 0).toInt ↔ ¬ mi 3 = 0) ∧ (0 < (mi 0).toInt ↔ 0 < (mi 3).toInt) ∧ 0 ≤ (mi 0).toInt ∧ (mi 0).toInt ≤ 24 := by
  obtain ⟨⟨-, -, h3, h4⟩, h5, h6⟩ := h
  by_cases g : mi 3 = 0
  · have g1 := h6 g
    have g2 : (mi 3).toInt = 0 := by rw [g]; exact z32
    have g3 : (mi 0).toInt = 0 := by rw [g1]; exact z32
    exact ⟨⟨fun q => by omega, fun q => absurd g q⟩, by omega, by omega, by omega⟩
  · have g1 := h5 g
    have g2 : ¬ (mi 3).toInt = 0 := fun q => g (Int32.toInt_inj.mp (by rw [z32]; exact q))
    exact ⟨⟨fun _ => g, fun _ => by omega⟩, by omega, by omega, by omega⟩
theorem r2_report {vx : Nat → Int32} {fx : Nat → Nat → Int32} {gx : Nat → Nat → Int64} {mi : Nat → Int32} {fm : Nat → Nat → Int32} (h : REL2 vx fx mi fm) (hk : ∀ i, i < 8 → fx 33 i = 0 ∨ fx 33 i = 1) {r r2 : Int32} {v : Nat → Int32} {f : Nat → Nat → Int32} {g : Nat → Nat → Int64} {mi2 : Nat → Int32} {fm2 : Nat → Nat → Int32} {p1 p2 : Int32} (hx : (r, v, f, g) = xs_report vx fx gx p1 p2) (hm : (r2, mi2, fm2) = ms_report mi fm p1 p2) : REL2 v f mi2 fm2 ∧ r = r2 := by
  unfold xs_report xt_report at hx
  unfold ms_report mt_report at hm
  have e1 := congrArg (fun o => o.1) hx
  have e2 := congrArg (fun o => o.2.1) hx
  have e3 := congrArg (fun o => o.2.2.1) hx
  have d1 := congrArg (fun o => o.1) hm
  have d2 := congrArg (fun o => o.2.1) hm
  have d3 := congrArg (fun o => o.2.2) hm
  dsimp only at e1 e2 e3 d1 d2 d3
  subst e2 e3 d2 d3
  refine ⟨h, ?_⟩
  rw [e1, d1]
  obtain ⟨hM1, hM2, hM3, hM4⟩ := dat_M h.2
  obtain ⟨⟨⟨w1, -, -, w4, w5, w6, w7⟩, ⟨m, r, d, hm, hr, hd, a1, a2, a3, a4, a5, a6, hN, hE1, hE2, hE3, hRg⟩, -⟩, -⟩ := h.2
  rw [a3]
  exact fl_report hr a4 (fun j hj => (hE2 j hj).1) p1 p2
theorem r2_deed {vx : Nat → Int32} {fx : Nat → Nat → Int32} {gx : Nat → Nat → Int64} {mi : Nat → Int32} {fm : Nat → Nat → Int32} (h : REL2 vx fx mi fm) (hk : ∀ i, i < 8 → fx 33 i = 0 ∨ fx 33 i = 1) {r r2 : Int32} {v : Nat → Int32} {f : Nat → Nat → Int32} {g : Nat → Nat → Int64} {mi2 : Nat → Int32} {fm2 : Nat → Nat → Int32} {p1 p2 : Int32} (hx : (r, v, f, g) = xs_deed vx fx gx p1 p2) (hm : (r2, mi2, fm2) = ms_deed mi fm p1 p2) : REL2 v f mi2 fm2 ∧ r = r2 := by
  unfold xs_deed xt_deed at hx
  unfold ms_deed mt_deed at hm
  have e1 := congrArg (fun o => o.1) hx
  have e2 := congrArg (fun o => o.2.1) hx
  have e3 := congrArg (fun o => o.2.2.1) hx
  have d1 := congrArg (fun o => o.1) hm
  have d2 := congrArg (fun o => o.2.1) hm
  have d3 := congrArg (fun o => o.2.2) hm
  dsimp only at e1 e2 e3 d1 d2 d3
  subst e2 e3 d2 d3
  refine ⟨h, ?_⟩
  rw [e1, d1]
  obtain ⟨hM1, hM2, hM3, hM4⟩ := dat_M h.2
  obtain ⟨⟨⟨w1, -, -, w4, w5, w6, w7⟩, ⟨m, r, d, hm, hr, hd, a1, a2, a3, a4, a5, a6, hN, hE1, hE2, hE3, hRg⟩, -⟩, -⟩ := h.2
  rw [a5]
  exact fl_deed hd a6 hE3 (fun j hj => hk j (by omega)) p1 p2
theorem r2_early {vx : Nat → Int32} {fx : Nat → Nat → Int32} {gx : Nat → Nat → Int64} {mi : Nat → Int32} {fm : Nat → Nat → Int32} (h : REL2 vx fx mi fm) (hk : ∀ i, i < 8 → fx 33 i = 0 ∨ fx 33 i = 1) {r r2 : Int32} {v : Nat → Int32} {f : Nat → Nat → Int32} {g : Nat → Nat → Int64} {mi2 : Nat → Int32} {fm2 : Nat → Nat → Int32} {p1 : Int32} (hx : (r, v, f, g) = xs_early vx fx gx p1) (hm : (r2, mi2, fm2) = ms_early mi fm p1) : REL2 v f mi2 fm2 ∧ r = r2 := by
  unfold xs_early xt_early at hx
  unfold ms_early mt_early at hm
  have e1 := congrArg (fun o => o.1) hx
  have e2 := congrArg (fun o => o.2.1) hx
  have e3 := congrArg (fun o => o.2.2.1) hx
  have d1 := congrArg (fun o => o.1) hm
  have d2 := congrArg (fun o => o.2.1) hm
  have d3 := congrArg (fun o => o.2.2) hm
  dsimp only at e1 e2 e3 d1 d2 d3
  subst e2 e3 d2 d3
  refine ⟨h, ?_⟩
  rw [e1, d1]
  obtain ⟨hM1, hM2, hM3, hM4⟩ := dat_M h.2
  obtain ⟨⟨⟨w1, -, -, w4, w5, w6, w7⟩, ⟨m, r, d, hm, hr, hd, a1, a2, a3, a4, a5, a6, hN, hE1, hE2, hE3, hRg⟩, -⟩, -⟩ := h.2
  rw [w1, w5, w6, w7]
  exact fl_early p1
theorem r2_blind {vx : Nat → Int32} {fx : Nat → Nat → Int32} {gx : Nat → Nat → Int64} {mi : Nat → Int32} {fm : Nat → Nat → Int32} (h : REL2 vx fx mi fm) (hk : ∀ i, i < 8 → fx 33 i = 0 ∨ fx 33 i = 1) {r r2 : Int32} {v : Nat → Int32} {f : Nat → Nat → Int32} {g : Nat → Nat → Int64} {mi2 : Nat → Int32} {fm2 : Nat → Nat → Int32} {p1 p2 : Int32} (hx : (r, v, f, g) = xs_blind vx fx gx p1 p2) (hm : (r2, mi2, fm2) = ms_blind mi fm p1 p2) : REL2 v f mi2 fm2 ∧ r = r2 := by
  unfold xs_blind xt_blind at hx
  unfold ms_blind mt_blind at hm
  have e1 := congrArg (fun o => o.1) hx
  have e2 := congrArg (fun o => o.2.1) hx
  have e3 := congrArg (fun o => o.2.2.1) hx
  have d1 := congrArg (fun o => o.1) hm
  have d2 := congrArg (fun o => o.2.1) hm
  have d3 := congrArg (fun o => o.2.2) hm
  dsimp only at e1 e2 e3 d1 d2 d3
  subst e2 e3 d2 d3
  refine ⟨h, ?_⟩
  rw [e1, d1]
  obtain ⟨hM1, hM2, hM3, hM4⟩ := dat_M h.2
  obtain ⟨⟨⟨w1, -, -, w4, w5, w6, w7⟩, ⟨m, r, d, hm, hr, hd, a1, a2, a3, a4, a5, a6, hN, hE1, hE2, hE3, hRg⟩, -⟩, -⟩ := h.2
  rw [w1, a3]
  exact fl_blind hr a4 (fun j hj => ⟨(hE2 j hj).1.2.1, (hE2 j hj).1.2.2.1, (hE2 j hj).1.2.2.2.2.1, (hE2 j hj).1.2.2.2.2.2⟩) hM2 hM3 hM4 p1 p2
theorem r2_place {vx : Nat → Int32} {fx : Nat → Nat → Int32} {gx : Nat → Nat → Int64} {mi : Nat → Int32} {fm : Nat → Nat → Int32} (h : REL2 vx fx mi fm) (hk : ∀ i, i < 8 → fx 33 i = 0 ∨ fx 33 i = 1) {r r2 : Int32} {v : Nat → Int32} {f : Nat → Nat → Int32} {g : Nat → Nat → Int64} {mi2 : Nat → Int32} {fm2 : Nat → Nat → Int32} {p1 p2 : Int32} (hx : (r, v, f, g) = xs_place vx fx gx p1 p2) (hm : (r2, mi2, fm2) = ms_place mi fm p1 p2) : REL2 v f mi2 fm2 ∧ r = r2 := by
  unfold xs_place xt_place at hx
  unfold ms_place mt_place at hm
  have e1 := congrArg (fun o => o.1) hx
  have e2 := congrArg (fun o => o.2.1) hx
  have e3 := congrArg (fun o => o.2.2.1) hx
  have d1 := congrArg (fun o => o.1) hm
  have d2 := congrArg (fun o => o.2.1) hm
  have d3 := congrArg (fun o => o.2.2) hm
  dsimp only at e1 e2 e3 d1 d2 d3
  subst e2 e3 d2 d3
  refine ⟨h, ?_⟩
  rw [e1, d1]
  obtain ⟨hM1, hM2, hM3, hM4⟩ := dat_M h.2
  obtain ⟨⟨⟨w1, -, -, w4, w5, w6, w7⟩, ⟨m, r, d, hm, hr, hd, a1, a2, a3, a4, a5, a6, hN, hE1, hE2, hE3, hRg⟩, -⟩, -⟩ := h.2
  rw [a1, a3]
  exact fl_place hm hr a2 a4 hN hE1 (fun j hj => ⟨(hE2 j hj).1.1, (hE2 j hj).1.2.2.2.2.2⟩) p1 p2
theorem r2_trusts {vx : Nat → Int32} {fx : Nat → Nat → Int32} {gx : Nat → Nat → Int64} {mi : Nat → Int32} {fm : Nat → Nat → Int32} (h : REL2 vx fx mi fm) {r r2 : Int32} {v : Nat → Int32} {f : Nat → Nat → Int32} {g : Nat → Nat → Int64} {mi2 : Nat → Int32} {fm2 : Nat → Nat → Int32} {p1 p2 : Int32} (hx : (r, v, f, g) = xs_trusts vx fx gx p1 p2) (hm : (r2, mi2, fm2) = ms_trusts mi fm p1 p2) : REL2 v f mi2 fm2 ∧ r = r2 := by
  unfold xs_trusts at hx
  unfold ms_trusts at hm
  obtain ⟨hM1, hM2, hM3, hM4⟩ := dat_M h.2
  obtain ⟨hR, ⟨⟨w1, w2, w3, w4, w5, w6, w7⟩, ⟨m, rr, d, hm6, hr, hd, a1, a2, a3, a4, a5, a6, hN, hE1, hE2, hE3, hRg⟩, w8⟩, w9⟩ := h
  rw [a1] at hx
  have hf := fl_trusts hm6 a2 hE1 (vx 1) (vx 3) (vx 4) p1 p2
  have hTr := tx_trusts (m := m) hRg.2.1 (vx 1) (vx 3) (vx 4) (nI m) p1 p2
  generalize fX11_trusts (vx 1) (vx 3) (vx 4) (nI m) (fx 23) p1 p2 = O at hx hf hTr
  generalize fX12_trusts mi (fm 0) p1 p2 = U at hm hf
  unfold xt_trusts at hx
  unfold mt_trusts at hm
  have e1 := congrArg (fun o => o.1) hx
  have e2 := congrArg (fun o => o.2.1) hx
  have e3 := congrArg (fun o => o.2.2.1) hx
  have d1 := congrArg (fun o => o.1) hm
  have d2 := congrArg (fun o => o.2.1) hm
  have d3 := congrArg (fun o => o.2.2) hm
  dsimp only at e1 e2 e3 d1 d2 d3
  subst e2 e3 d2 d3
  refine ⟨⟨hR, ⟨⟨w1, w2, w3, w4, w5, w6, w7⟩, ⟨m, rr, d, hm6, hr, hd, a1, a2, a3, a4, a5, a6, hN, hf.2, hE2, hE3, ⟨hRg.1, hTr, hRg.2.2⟩⟩, w8⟩, w9⟩, ?_⟩
  rw [e1, d1]
  exact hf.1
theorem r2_moon {vx : Nat → Int32} {fx : Nat → Nat → Int32} {gx : Nat → Nat → Int64} {mi : Nat → Int32} {fm : Nat → Nat → Int32} (h : REL2 vx fx mi fm) {r r2 : Int32} {v : Nat → Int32} {f : Nat → Nat → Int32} {g : Nat → Nat → Int64} {mi2 : Nat → Int32} {fm2 : Nat → Nat → Int32} {p1 p2 : Int32} (hx : (r, v, f, g) = xs_moon vx fx gx p1 p2) (hm : (r2, mi2, fm2) = ms_moon mi fm p1 p2) : REL2 v f mi2 fm2 ∧ r = r2 := by
  unfold xs_moon at hx
  unfold ms_moon at hm
  obtain ⟨hM1, hM2, hM3, hM4⟩ := dat_M h.2
  obtain ⟨hR, ⟨⟨w1, w2, w3, w4, w5, w6, w7⟩, ⟨m, rr, d, hm6, hr, hd, a1, a2, a3, a4, a5, a6, hN, hE1, hE2, hE3, hRg⟩, w8⟩, w9⟩ := h
  rw [w1, w5, w6, w7] at hx
  have hf := fl_moon hM1 (vx 1) (vx 3) (vx 4) p1 p2
  generalize fX11_moon (vx 1) (vx 3) (vx 4) (mi 0) (mi 4) (mi 5) (mi 6) p1 p2 = O at hx hf
  generalize fX12_moon mi p1 p2 = U at hm hf
  unfold xt_moon at hx
  unfold mt_moon at hm
  have e1 := congrArg (fun o => o.1) hx
  have e2 := congrArg (fun o => o.2.1) hx
  have e3 := congrArg (fun o => o.2.2.1) hx
  have d1 := congrArg (fun o => o.1) hm
  have d2 := congrArg (fun o => o.2.1) hm
  have d3 := congrArg (fun o => o.2.2) hm
  dsimp only at e1 e2 e3 d1 d2 d3
  subst e2 e3 d2 d3
  refine ⟨⟨hR, ⟨⟨w1, w2, w3, w4, congrArg (fun o => o.1) hf.2, congrArg (fun o => o.2.1) hf.2, congrArg (fun o => o.2.2) hf.2⟩, ⟨m, rr, d, hm6, hr, hd, a1, a2, a3, a4, a5, a6, hN, hE1, hE2, hE3, hRg⟩, w8⟩, w9⟩, ?_⟩
  rw [e1, d1]
  exact hf.1
theorem r2_strikes {vx : Nat → Int32} {fx : Nat → Nat → Int32} {gx : Nat → Nat → Int64} {mi : Nat → Int32} {fm : Nat → Nat → Int32} (h : REL2 vx fx mi fm) {r r2 : Int32} {v : Nat → Int32} {f : Nat → Nat → Int32} {g : Nat → Nat → Int64} {mi2 : Nat → Int32} {fm2 : Nat → Nat → Int32} {p1 : Int32} (hx : (r, v, f, g) = xs_strikes vx fx gx p1) (hm : (r2, mi2, fm2) = ms_strikes mi fm p1) : REL2 v f mi2 fm2 ∧ r = r2 := by
  unfold xs_strikes at hx
  unfold ms_strikes at hm
  obtain ⟨hM1, hM2, hM3, hM4⟩ := dat_M h.2
  obtain ⟨hR, ⟨⟨w1, w2, w3, w4, w5, w6, w7⟩, ⟨m, rr, d, hm6, hr, hd, a1, a2, a3, a4, a5, a6, hN, hE1, hE2, hE3, hRg⟩, w8⟩, w9⟩ := h
  rw [a1, a3] at hx
  have hf := fl_strikes hm6 hr a4 (fun j hj => ⟨(hE2 j hj).1.2.2.2.2.2, (hE2 j hj).2⟩) (vx 1) (vx 3) (vx 4) p1
  generalize fX11_strikes (vx 1) (vx 3) (vx 4) (nI m) (nI rr) (fx 24) (fx 29) p1 = O at hx hf
  generalize fX12_strikes mi (fm 4) p1 = U at hm hf
  unfold xt_strikes at hx
  unfold mt_strikes at hm
  have e1 := congrArg (fun o => o.1) hx
  have e2 := congrArg (fun o => o.2.1) hx
  have e3 := congrArg (fun o => o.2.2.1) hx
  have d1 := congrArg (fun o => o.1) hm
  have d2 := congrArg (fun o => o.2.1) hm
  have d3 := congrArg (fun o => o.2.2) hm
  dsimp only at e1 e2 e3 d1 d2 d3
  subst e2 e3 d2 d3
  refine ⟨⟨hR, ⟨⟨w1, w2, w3, w4, w5, w6, w7⟩, ⟨m, rr, d, hm6, hr, hd, a1, a2, a3, a4, a5, a6, hN, hE1, fun j hj => ⟨⟨(hE2 j hj).1.1, (hE2 j hj).1.2.1, (hE2 j hj).1.2.2.1, (hE2 j hj).1.2.2.2.1, (hE2 j hj).1.2.2.2.2.1, hf.2 j hj⟩, (hE2 j hj).2⟩, hE3, hRg⟩, w8⟩, w9⟩, ?_⟩
  rw [e1, d1]
  exact hf.1
theorem r2_reports {vx : Nat → Int32} {fx : Nat → Nat → Int32} {gx : Nat → Nat → Int64} {mi : Nat → Int32} {fm : Nat → Nat → Int32} (h : REL2 vx fx mi fm) {r r2 : Int32} {v : Nat → Int32} {f : Nat → Nat → Int32} {g : Nat → Nat → Int64} {mi2 : Nat → Int32} {fm2 : Nat → Nat → Int32} {p1 p2 p3 p4 p5 : Int32} (hx : (r, v, f, g) = xs_reports vx fx gx p1 p2 p3 p4 p5) (hm : (r2, mi2, fm2) = ms_reports mi fm p1 p2 p3 p4 p5) : REL2 v f mi2 fm2 ∧ r = r2 := by
  unfold xs_reports at hx
  unfold ms_reports at hm
  obtain ⟨hM1, hM2, hM3, hM4⟩ := dat_M h.2
  obtain ⟨hR, ⟨⟨w1, w2, w3, w4, w5, w6, w7⟩, ⟨m, rr, d, hm6, hr, hd, a1, a2, a3, a4, a5, a6, hN, hE1, hE2, hE3, hRg⟩, w8⟩, w9⟩ := h
  rw [w1, a1, a3] at hx
  have same : REL2 vx fx mi fm := ⟨hR, ⟨⟨w1, w2, w3, w4, w5, w6, w7⟩, ⟨m, rr, d, hm6, hr, hd, a1, a2, a3, a4, a5, a6, hN, hE1, hE2, hE3, hRg⟩, w8⟩, w9⟩
  unfold xt_reports at hx
  unfold mt_reports at hm
  by_cases hc : ((0 ≤ p1.toInt ∧ p1.toInt < (m : Int)) ∧ (0 ≤ p2.toInt ∧ p2.toInt ≤ 2) ∧ (0 < (mi 0).toInt ∧ 1 ≤ p3.toInt ∧ p3.toInt ≤ (mi 0).toInt - 1) ∧ 0 ≤ p4.toInt ∧ p4.toInt ≤ p5.toInt ∧ p5.toInt ≤ 999)
  · rw [px_reports1 hm6 hr hM3 hM4 _ _ _ _ _ _ _ _ hc] at hx
    rw [mr_reports1 hm6 hr a2 a4 hM1 hM3 hM4 _ _ _ _ _ hc] at hm
    by_cases g24 : rr < 24
    · rw [if_pos g24] at hx hm
      have e1 := congrArg (fun o => o.1) hx
      have e2 := congrArg (fun o => o.2.1) hx
      have e3 := congrArg (fun o => o.2.2.1) hx
      have d1 := congrArg (fun o => o.1) hm
      have d2 := congrArg (fun o => o.2.1) hm
      have d3 := congrArg (fun o => o.2.2) hm
      dsimp only at e1 e2 e3 d1 d2 d3
      subst e2 e3 d2 d3
      refine ⟨⟨hR, ⟨⟨w1, w2, w3, w4, w5, w6, w7⟩, ⟨m, rr + 1, d, hm6, by omega, hd, a1, a2, rfl, rfl, a5, a6, hN, hE1, fun j hj => ⟨⟨upd_eqs p1 (fun i hi => (hE2 i hi).1.1) j hj, upd_eqs p2 (fun i hi => (hE2 i hi).1.2.1) j hj, upd_eqs p3 (fun i hi => (hE2 i hi).1.2.2.1) j hj, upd_eqs p4 (fun i hi => (hE2 i hi).1.2.2.2.1) j hj, upd_eqs p5 (fun i hi => (hE2 i hi).1.2.2.2.2.1) j hj, upd_eqs 0 (fun i hi => (hE2 i hi).1.2.2.2.2.2) j hj⟩, ?_⟩, hE3, drg_report hRg (hM1.1 hc.2.2.1.1) (i32_012 hc.2.1) hc.2.2.1.2⟩, w8⟩, w9⟩, by rw [e1, d1]⟩
      by_cases h1 : j = rr
      · obtain ⟨q1, q2⟩ := clampI hc.1
        exact ⟨_, q1, (show upd (fx 24) rr p1 j = p1 from if_pos h1).trans q2⟩
      · obtain ⟨q1, q2, q3⟩ := (hE2 j (by omega)).2
        exact ⟨q1, q2, (show upd (fx 24) rr p1 j = fx 24 j from if_neg h1).trans q3⟩
    · rw [if_neg g24] at hx hm
      have e1 := congrArg (fun o => o.1) hx
      have e2 := congrArg (fun o => o.2.1) hx
      have e3 := congrArg (fun o => o.2.2.1) hx
      have d1 := congrArg (fun o => o.1) hm
      have d2 := congrArg (fun o => o.2.1) hm
      have d3 := congrArg (fun o => o.2.2) hm
      dsimp only at e1 e2 e3 d1 d2 d3
      subst e2 e3 d2 d3
      exact ⟨⟨hR, ⟨⟨w1, w2, w3, w4, w5, w6, w7⟩, ⟨m, rr, d, hm6, hr, hd, a1, a2, rfl, rfl, a5, a6, hN, hE1, hE2, hE3, hRg⟩, w8⟩, w9⟩, by rw [e1, d1]⟩
  · rw [px_reports0 hm6 hr hM3 hM4 _ _ _ _ _ _ _ _ hc] at hx
    rw [mr_reports0 hm6 hr a2 a4 hM1 hM3 hM4 _ _ _ _ _ hc] at hm
    have e1 := congrArg (fun o => o.1) hx
    have e2 := congrArg (fun o => o.2.1) hx
    have e3 := congrArg (fun o => o.2.2.1) hx
    have d1 := congrArg (fun o => o.1) hm
    have d2 := congrArg (fun o => o.2.1) hm
    have d3 := congrArg (fun o => o.2.2) hm
    dsimp only at e1 e2 e3 d1 d2 d3
    subst e2 e3 d2 d3
    exact ⟨⟨hR, ⟨⟨w1, w2, w3, w4, w5, w6, w7⟩, ⟨m, rr, d, hm6, hr, hd, a1, a2, rfl, rfl, a5, a6, hN, hE1, hE2, hE3, hRg⟩, w8⟩, w9⟩, by rw [e1, d1]⟩
theorem r2_feed {vx : Nat → Int32} {fx : Nat → Nat → Int32} {gx : Nat → Nat → Int64} {mi : Nat → Int32} {fm : Nat → Nat → Int32} (h : REL2 vx fx mi fm) {r r2 : Int32} {v : Nat → Int32} {f : Nat → Nat → Int32} {g : Nat → Nat → Int64} {mi2 : Nat → Int32} {fm2 : Nat → Nat → Int32} {p1 p2 p3 p4 p5 : Int32} (hx : (r, v, f, g) = xs_feed vx fx gx p1 p2 p3 p4 p5) (hm : (r2, mi2, fm2) = ms_feed mi fm p1 p2 p3 p4 p5) : REL2 v f mi2 fm2 ∧ r = r2 := by
  obtain ⟨q1, q2⟩ := rl_feed h.1 hx hm
  refine ⟨⟨q1, ?_⟩, q2⟩
  unfold xs_feed xt_feed at hx
  unfold ms_feed mt_feed at hm
  have e2 := congrArg (fun o => o.2.1) hx
  have e3 := congrArg (fun o => o.2.2.1) hx
  have d2 := congrArg (fun o => o.2.1) hm
  have d3 := congrArg (fun o => o.2.2) hm
  dsimp only at e2 e3 d2 d3
  subst e2 e3 d2 d3
  exact h.2
theorem r2_end {vx : Nat → Int32} {fx : Nat → Nat → Int32} {gx : Nat → Nat → Int64} {mi : Nat → Int32} {fm : Nat → Nat → Int32} (h : REL2 vx fx mi fm) {r r2 : Int32} {v : Nat → Int32} {f : Nat → Nat → Int32} {g : Nat → Nat → Int64} {mi2 : Nat → Int32} {fm2 : Nat → Nat → Int32} {p1 : Int32} (hx : (r, v, f, g) = xs_end vx fx gx p1) (hm : (r2, mi2, fm2) = ms_end mi fm p1) : REL2 v f mi2 fm2 ∧ r = r2 := by
  obtain ⟨q1, q2⟩ := rl_end h.1 hx hm
  refine ⟨⟨q1, ?_⟩, q2⟩
  unfold xs_end xt_end at hx
  unfold ms_end mt_end at hm
  have e2 := congrArg (fun o => o.2.1) hx
  have e3 := congrArg (fun o => o.2.2.1) hx
  have d2 := congrArg (fun o => o.2.1) hm
  have d3 := congrArg (fun o => o.2.2) hm
  dsimp only at e2 e3 d2 d3
  subst e2 e3 d2 d3
  exact h.2
theorem r2_fault {vx : Nat → Int32} {fx : Nat → Nat → Int32} {gx : Nat → Nat → Int64} {mi : Nat → Int32} {fm : Nat → Nat → Int32} (h : REL2 vx fx mi fm) {r r2 : Int32} {v : Nat → Int32} {f : Nat → Nat → Int32} {g : Nat → Nat → Int64} {mi2 : Nat → Int32} {fm2 : Nat → Nat → Int32} {p1 : Int32} (hx : (r, v, f, g) = xs_fault vx fx gx p1) (hm : (r2, mi2, fm2) = ms_fault mi fm p1) : REL2 v f mi2 fm2 ∧ r = r2 := by
  obtain ⟨q1, q2⟩ := rl_fault h.1 hx hm
  refine ⟨⟨q1, ?_⟩, q2⟩
  unfold xs_fault xt_fault at hx
  unfold ms_fault mt_fault at hm
  have e2 := congrArg (fun o => o.2.1) hx
  have e3 := congrArg (fun o => o.2.2.1) hx
  have d2 := congrArg (fun o => o.2.1) hm
  have d3 := congrArg (fun o => o.2.2) hm
  dsimp only at e2 e3 d2 d3
  subst e2 e3 d2 d3
  exact h.2
set_option maxRecDepth 100000 in
theorem alm_fail {n : Nat} {bt tp mi cg0 cg1 cg2 cg3 cg4 cg5 cg6 cg7 cg8 cg9 cg10 cg11 ry0 ry1 ry2 ry3 ry4 ry5 ry6 ry7 ry8 ry9 ry10 ry11 ry12 : Nat → Int32} {cs ts hs tok st : Int32} (hn : n ≤ 1600) (hT : TR n bt tp) (h26 : mi 26 = nI n) {O : Int32 × Int32 × Int32 × Int32 × Int32 × Int32 × Int32 × Int32 × Int32 × Int32 × Int32 × Int32 × Int32 × Int32 × Int32 × Int32 × Int32 × Int32 × Int32 × Int32 × (Nat → Int32) × (Nat → Int32) × (Nat → Int32) × (Nat → Int32) × (Nat → Int32) × (Nat → Int32) × (Nat → Int32) × (Nat → Int32) × (Nat → Int32) × (Nat → Int32) × (Nat → Int32) × (Nat → Int32)} (hO : O = fX11_almanac cs ts hs tok st (nI n) bt cg0 cg1 cg2 cg3 cg4 cg5 cg6 cg7 cg8 cg9 cg10 cg11) {U : Int32 × Int32 × Int32 × Int32 × Int32 × Int32 × Int32 × Int32 × Int32 × Int32 × Int32 × Int32 × Int32 × Int32 × Int32 × Int32 × Int32 × Int32 × Int32 × Int32 × Int32 × (Nat → Int32) × (Nat → Int32) × (Nat → Int32) × (Nat → Int32) × (Nat → Int32) × (Nat → Int32) × (Nat → Int32) × (Nat → Int32) × (Nat → Int32) × (Nat → Int32) × (Nat → Int32) × (Nat → Int32) × (Nat → Int32)} (hU : U = fX12_almanac mi tp ry0 ry1 ry2 ry3 ry4 ry5 ry6 ry7 ry8 ry9 ry10 ry11 ry12) (hfk : ¬ O.2.2.2.2.1 = 0) : ∃ (k fu : Int32 × Int32 × Int32 × Int32 × Int32 × Int32 × Int32 × Int32 × Int32 × Int32 × Int32 × Int32 × (Nat → Int32) × (Nat → Int32) × (Nat → Int32) × (Nat → Int32) × (Nat → Int32) × (Nat → Int32) × (Nat → Int32) × (Nat → Int32) × (Nat → Int32) × (Nat → Int32) × (Nat → Int32) × (Nat → Int32) × (Nat → Int32)) (mi9 t9 l9 a1 a2 a3 a4 a5 b1 b2 b3 b4 s9 : Nat → Int32), k = fX12_movesAll mi ry0 ry1 ry2 ry3 ry4 ry5 ry6 ry7 ry8 ry9 ry10 ry11 ry12 1 ∧ fu = fX12_movesAll_sX12_movesAllR mi9 k.2.2.2.2.2.2.2.2.2.2.2.2.1 t9 l9 a1 a2 a3 a4 a5 b1 b2 b3 b4 s9 0 ∧ U.2.1 = fu.1 ∧ U.2.2.1 = fu.2.1 ∧ U.2.2.2.1 = fu.2.2.1 ∧ U.2.2.2.2.1 = fu.2.2.2.1 ∧ U.2.2.2.2.2.1 = fu.2.2.2.2.1 ∧ U.2.2.2.2.2.2.1 = fu.2.2.2.2.2.1 ∧ U.2.2.2.2.2.2.2.1 = fu.2.2.2.2.2.2.1 ∧ U.2.2.2.2.2.2.2.2.1 = fu.2.2.2.2.2.2.2.1 ∧ U.2.2.2.2.2.2.2.2.2.1 = fu.2.2.2.2.2.2.2.2.1 ∧ U.2.2.2.2.2.2.2.2.2.2.1 = fu.2.2.2.2.2.2.2.2.2.1 ∧ U.2.2.2.2.2.2.2.2.2.2.2.2.2.2.2.2.2.2.2.2.2.2.1 = fu.2.2.2.2.2.2.2.2.2.2.2.2.2.1 ∧ U.2.2.2.2.2.2.2.2.2.2.2.2.2.2.2.2.2.2.2.2.2.2.2.1 = fu.2.2.2.2.2.2.2.2.2.2.2.2.2.2.1 ∧ U.2.2.2.2.2.2.2.2.2.2.2.2.2.2.2.2.2.2.2.2.2.2.2.2.1 = fu.2.2.2.2.2.2.2.2.2.2.2.2.2.2.2.1 ∧ U.2.2.2.2.2.2.2.2.2.2.2.2.2.2.2.2.2.2.2.2.2.2.2.2.2.1 = fu.2.2.2.2.2.2.2.2.2.2.2.2.2.2.2.2.1 ∧ U.2.2.2.2.2.2.2.2.2.2.2.2.2.2.2.2.2.2.2.2.2.2.2.2.2.2.1 = fu.2.2.2.2.2.2.2.2.2.2.2.2.2.2.2.2.2.1 ∧ U.2.2.2.2.2.2.2.2.2.2.2.2.2.2.2.2.2.2.2.2.2.2.2.2.2.2.2.1 = fu.2.2.2.2.2.2.2.2.2.2.2.2.2.2.2.2.2.2.1 ∧ U.2.2.2.2.2.2.2.2.2.2.2.2.2.2.2.2.2.2.2.2.2.2.2.2.2.2.2.2.1 = fu.2.2.2.2.2.2.2.2.2.2.2.2.2.2.2.2.2.2.2.1 ∧ U.2.2.2.2.2.2.2.2.2.2.2.2.2.2.2.2.2.2.2.2.2.2.2.2.2.2.2.2.2.1 = fu.2.2.2.2.2.2.2.2.2.2.2.2.2.2.2.2.2.2.2.2.1 ∧ U.2.2.2.2.2.2.2.2.2.2.2.2.2.2.2.2.2.2.2.2.2.2.2.2.2.2.2.2.2.2.1 = fu.2.2.2.2.2.2.2.2.2.2.2.2.2.2.2.2.2.2.2.2.2.1 ∧ U.2.2.2.2.2.2.2.2.2.2.2.2.2.2.2.2.2.2.2.2.2.2.2.2.2.2.2.2.2.2.2.1 = fu.2.2.2.2.2.2.2.2.2.2.2.2.2.2.2.2.2.2.2.2.2.2.1 ∧ U.2.2.2.2.2.2.2.2.2.2.2.2.2.2.2.2.2.2.2.2.2.2.2.2.2.2.2.2.2.2.2.2.1 = fu.2.2.2.2.2.2.2.2.2.2.2.2.2.2.2.2.2.2.2.2.2.2.2.1 ∧ U.2.2.2.2.2.2.2.2.2.2.2.2.2.2.2.2.2.2.2.2.2.2.2.2.2.2.2.2.2.2.2.2.2 = fu.2.2.2.2.2.2.2.2.2.2.2.2.2.2.2.2.2.2.2.2.2.2.2.2 := by
  unfold fX11_almanac at hO
  obtain ⟨o1, e1, hO⟩ := cal_out hO
  unfold fX6_read at e1
  obtain ⟨w, ew, e1⟩ := cal_out e1
  obtain ⟨q, eq, e1⟩ := cal_out e1
  unfold fX0_wipe at ew
  subst ew
  unfold fX12_almanac at hU
  obtain ⟨k, ek, hU⟩ := cal_out hU
  obtain ⟨x, ex, hU⟩ := cal_out hU
  obtain ⟨s0, hs0⟩ : ∃ s, s = prun (fun j => cB (bt j).toInt) (n - 0) 0 := ⟨_, rfl⟩
  have hs0n : s0 ≤ n := by
    have g := prun_le (fun j => cB (bt j).toInt) (n - 0) 0
    omega
  have eq : q = (nI (ptok (fun j => (bt j).toInt) n s0).1, nI s0, nI (ptok (fun j => (bt j).toInt) n s0).2) := by
    rw [hs0]
    exact eq.trans (px_step (p := 0) hn (Nat.zero_le _))
  have hsr : prun (fun j => cB (tp j).toInt) (n - 0) 0 = s0 := by
    rw [hs0]
    exact prun_eq _ _ (fun j g1 g2 => tr_B hT (by omega))
  obtain ⟨wv, ev1, ev2⟩ := pr_next (tp := tp) (mi := (upd (upd (upd (upd (upd (upd (upd (upd (upd (upd (upd (upd (upd (upd (upd (upd mi 0 0) 1 0) 2 0) 3 0) 4 0) 5 0) 6 0) 7 0) 10 0) 17 0) 23 k.2.2.2.2.2.2.2.2.2.2.1) 24 k.2.2.2.2.2.2.2.2.2.2.2.1) 27 0) 28 (-1)) 29 0) 33 0)) (p := 0) hn (Nat.zero_le _) h26 rfl
  rw [hsr, tr_tok hT] at ev1
  rw [hsr, tr_val hT] at ev2
  have ex : x = (nI (ptok (fun j => (bt j).toInt) n s0).2, nI s0, nI (pkind (ptok (fun j => (bt j).toInt) n s0).1), wv) := ex.trans ev1
  subst eq ex
  have hQ : aQ s0 n bt (aOk s0) (0, -1, nI (ptok (fun j => (bt j).toInt) n s0).1, nI s0, nI (ptok (fun j => (bt j).toInt) n s0).2) (0, -1, nI (ptok (fun j => (bt j).toInt) n s0).2, nI s0, nI (pkind (ptok (fun j => (bt j).toInt) n s0).1), wv, 0) := by
    refine ⟨aRC_ok hs0n, ?_, fun _ => ⟨Nat.le_refl _, hs0n⟩⟩
    unfold aR7
    rw [if_neg (show ¬ (aOk s0).1 = true from Bool.false_ne_true)]
    exact ⟨rfl, rfl, rfl, rfl, hs0n, rfl, rfl, rfl, ev2⟩
  have z0 : (0 : Int32).toInt = 0 := by decide
  have hDD : ∀ (nm xt xp xk xm xd xn xs xa xb xl xi lt yt yp yk ym yd yn ys ya yb yl yi : Nat → Int32), DRel s0 0 0 0 0 0 0 0 0 0 0 nm xt xp xk xm xd xn xs xa xb xl xi 0 0 0 0 0 0 0 0 0 0 lt yt yp yk ym yd yn ys ya yb yl yi := by
    intro nm xt xp xk xm xd xn xs xa xb xl xi lt yt yp yk ym yd yn ys ya yb yl yi
    refine ⟨⟨⟨rfl, rfl, rfl, rfl, rfl, rfl, rfl⟩, ⟨0, 0, 0, by omega, by omega, by omega, rfl, rfl, rfl, rfl, rfl, rfl, fun p hp => absurd hp (by omega), fun j hj => absurd hj (by omega), fun j hj => absurd hj (by omega), fun j hj => absurd hj (by omega), fun _ => ⟨rfl, rfl⟩, fun p hp => absurd hp (by omega), fun p q hp => absurd hp (by omega), fun j hj => absurd hj (by omega), fun j hj => absurd hj (by omega)⟩, by rw [z0]; omega, by rw [z0]; omega⟩, fun q => absurd rfl q, fun _ => rfl⟩
  obtain ⟨X, Y, a, hXe, hYe, hQ2, hD2⟩ := rd_loop (ctok := tok) (cst := st) (w23 := k.2.2.2.2.2.2.2.2.2.2.1) (w24 := k.2.2.2.2.2.2.2.2.2.2.2.1) (kp := k.2.2.2.2.2.2.2.2.2.2.2.2.1) (mi := mi) (cg0 := cg0) (cg1 := cg1) (cg2 := cg2) (cg3 := cg3) (cg4 := cg4) (cg5 := cg5) (cg6 := cg6) (cg7 := cg7) (cg8 := cg8) (cg9 := cg9) (cg10 := cg10) (cg11 := cg11) (ry0 := ry0) (ry1 := ry1) (ry2 := ry2) (ry3 := ry3) (ry4 := ry4) (ry5 := ry5) (ry6 := ry6) (ry7 := ry7) (ry8 := ry8) (ry9 := ry9) (ry10 := ry10) (ry11 := ry11) (ry12 := ry12) hn hT h26 (n + 1) s0 0 1000000000 1000000000 (0, -1, nI (ptok (fun j => (bt j).toInt) n s0).1, nI s0, nI (ptok (fun j => (bt j).toInt) n s0).2) (0, -1, nI (ptok (fun j => (bt j).toInt) n s0).2, nI s0, nI (pkind (ptok (fun j => (bt j).toInt) n s0).1), wv, 0) 0 0 0 0 0 0 0 0 0 0 0 0 0 0 0 0 0 0 0 0 cg0 cg1 cg2 cg3 cg4 cg5 cg6 cg7 cg8 cg9 cg10 cg11 k.2.2.2.2.2.2.2.2.2.2.2.2.2.2.1 k.2.2.2.2.2.2.2.2.2.2.2.2.2.1 k.2.2.2.2.2.2.2.2.2.2.2.2.2.2.2.1 k.2.2.2.2.2.2.2.2.2.2.2.2.2.2.2.2.1 k.2.2.2.2.2.2.2.2.2.2.2.2.2.2.2.2.2.1 k.2.2.2.2.2.2.2.2.2.2.2.2.2.2.2.2.2.2.1 k.2.2.2.2.2.2.2.2.2.2.2.2.2.2.2.2.2.2.2.1 k.2.2.2.2.2.2.2.2.2.2.2.2.2.2.2.2.2.2.2.2.2.2.2.2 k.2.2.2.2.2.2.2.2.2.2.2.2.2.2.2.2.2.2.2.2.1 k.2.2.2.2.2.2.2.2.2.2.2.2.2.2.2.2.2.2.2.2.2.1 k.2.2.2.2.2.2.2.2.2.2.2.2.2.2.2.2.2.2.2.2.2.2.1 k.2.2.2.2.2.2.2.2.2.2.2.2.2.2.2.2.2.2.2.2.2.2.2.1 (by omega) (by omega) hs0n (by omega) (by omega) hQ (hDD _ _ _ _ _ _ _ _ _ _ _ _ _ _ _ _ _ _ _ _ _ _ _ _)
  have e1 : o1 = X := e1.trans hXe
  have hU := hU.trans hYe
  subst e1
  unfold bfX12_almanac_100 at hU
  by_cases ha : a.1 = false
  · rw [if_pos ((aQ_fk hQ2).mpr ha)] at hO
    obtain ⟨fo, -, hO⟩ := cal_out hO
    subst hO
    exact absurd ((aQ_fk hQ2).mpr ha) hfk
  · rw [if_neg (fun q => ha ((aQ_33 hQ2).mp q))] at hU
    obtain ⟨fu, ef, hU⟩ := cal_out hU
    subst hU
    exact ⟨k, fu, _, _, _, _, _, _, _, _, _, _, _, _, _, ek, ef, rfl, rfl, rfl, rfl, rfl, rfl, rfl, rfl, rfl, rfl, rfl, rfl, rfl, rfl, rfl, rfl, rfl, rfl, rfl, rfl, rfl, rfl⟩
set_option maxRecDepth 100000 in
theorem r2_almanac {vx : Nat → Int32} {fx : Nat → Nat → Int32} {gx : Nat → Nat → Int64} {mi : Nat → Int32} {fm : Nat → Nat → Int32} (h : REL2 vx fx mi fm) (hb4 : mi 4 = 0 ∨ mi 4 = 1) (hbs : ∀ i, i < 24 → fm 4 i = 0 ∨ fm 4 i = 1) {r r2 : Int32} {v : Nat → Int32} {f : Nat → Nat → Int32} {g : Nat → Nat → Int64} {mi2 : Nat → Int32} {fm2 : Nat → Nat → Int32} (hx : (r, v, f, g) = xs_almanac vx fx gx) (hm : (r2, mi2, fm2) = ms_almanac mi fm) : REL2 v f mi2 fm2 ∧ r = r2 := by
  obtain ⟨q1, q2⟩ := rl_almanac h.1 hx hm
  refine ⟨⟨q1, ?_⟩, q2⟩
  obtain ⟨⟨n, hn, h10, h26, hT⟩, -⟩ := h.1
  have hDD := h.2
  unfold xs_almanac at hx
  unfold ms_almanac at hm
  rw [h10] at hx
  obtain ⟨O, hO⟩ : ∃ O, O = fX11_almanac (vx 1) (vx 3) (vx 4) (vx 7) (vx 8) (nI n) (fx 0) (fx 46) (fx 47) (fx 48) (fx 49) (fx 50) (fx 51) (fx 52) (fx 53) (fx 54) (fx 55) (fx 56) (fx 57) := ⟨_, rfl⟩
  obtain ⟨U, hU⟩ : ∃ U, U = fX12_almanac mi (fm 13) (fm 12) (fm 0) (fm 1) (fm 2) (fm 3) (fm 5) (fm 6) (fm 7) (fm 8) (fm 9) (fm 10) (fm 11) (fm 4) := ⟨_, rfl⟩
  rw [← hO] at hx
  rw [← hU] at hm
  unfold mt_almanac at hm
  have d2 := congrArg (fun o => o.2.1) hm
  have d3 := congrArg (fun o => o.2.2) hm
  dsimp only at d2 d3
  unfold xt_almanac at hx
  by_cases h0 : O.2.2.2.2.1 = 0
  · obtain ⟨-, -, -, -, -, hN9⟩ := alm_core hn hT h26 hO hU
    have hD9 := drel_mono (drel_fl (hN9 h0) U.2.2.1 U.2.2.2.1) hn
    rw [if_pos h0] at hx
    have e2 := congrArg (fun o => o.2.1) hx
    have e3 := congrArg (fun o => o.2.2.1) hx
    dsimp only at e2 e3
    subst e2 e3 d2 d3
    exact hD9
  · obtain ⟨k, fu, mi9, t9, l9, a1, a2, a3, a4, a5, b1, b2, b3, b4, s9, ek, ef, u0, u1, u2, u3, u4, u5, u6, u7, u8, u9, w0, w1, w2, w3, w4, w5, w6, w7, w8, w9, w10, w11⟩ := alm_fail hn hT h26 hO hU h0
    have hK := kp_facts (mvk_all hb4 hbs ek)
    have hR := mvr_all ef
    obtain ⟨k0, k1, k2, k3, k4, k5, k6, k7, k8, k9, y0, y1, y2, y3, y4, y5, y6, y7, y8, y9, y10, y11⟩ := hK
    obtain ⟨r0, r1, r2, r3, r4, r5, r6, r7, r8, r9, z0, z1, z2, z3, z4, z5, z6, z7, z8, z9, z10, z11⟩ := hR
    rw [if_neg h0] at hx
    have e2 := congrArg (fun o => o.2.1) hx
    have e3 := congrArg (fun o => o.2.2.1) hx
    dsimp only at e2 e3
    subst e2 e3 d2 d3
    have n4 : U.2.2.2.2.2.1 = mi 4 := by
      rw [u4, r4, k4]
      rcases hb4 with q | q
      · rw [q]
        exact if_neg (by decide)
      · rw [q]
        exact if_pos rfl
    have nst : ∀ i, i < 24 → U.2.2.2.2.2.2.2.2.2.2.2.2.2.2.2.2.2.2.2.2.2.2.2.2.2.2.2.2.2.2.2.2.2 i = fm 4 i := by
      intro i hi
      rw [w11, z11 i hi, y11 i hi]
      rcases hbs i hi with q | q
      · rw [q]
        exact if_neg (by decide)
      · rw [q]
        exact if_pos rfl
    exact drel_fl (drel_congr hDD (u0.trans (r0.trans k0)) (u1.trans (r1.trans k1)) (u2.trans (r2.trans k2)) (u3.trans (r3.trans k3)) n4 (u5.trans (r5.trans k5)) (u6.trans (r6.trans k6)) (u7.trans (r7.trans k7)) (u8.trans (r8.trans k8)) (u9.trans (r9.trans k9)) (fun i hi => by rw [w1]; exact (z1 i hi).trans (y1 i hi)) (fun i hi => by rw [w0]; exact (z0 i hi).trans (y0 i hi)) (fun i hi => by rw [w2]; exact (z2 i hi).trans (y2 i hi)) (fun i hi => by rw [w3]; exact (z3 i hi).trans (y3 i hi)) (fun i hi => by rw [w4]; exact (z4 i hi).trans (y4 i hi)) (fun i hi => by rw [w5]; exact (z5 i hi).trans (y5 i hi)) (fun i hi => by rw [w6]; exact (z6 i hi).trans (y6 i hi)) nst (fun i hi => by rw [w7]; exact (z7 i hi).trans (y7 i hi)) (fun i hi => by rw [w8]; exact (z8 i hi).trans (y8 i hi)) (fun i hi => by rw [w9]; exact (z9 i hi).trans (y9 i hi)) (fun i hi => by rw [w10]; exact (z10 i hi).trans (y10 i hi))) _ _
theorem bt_1 : ∀ i, i < 32 → bt 1 i = decide (i = 0) := by decide +kernel
theorem bt_and1 (x : Int32) : (x &&& (1 : Int32)) = 0 ↔ bt x 0 = false := by
  constructor
  · intro h
    have q := congrArg (fun y => bt y 0) h
    simp only [b_and, b_0, bt_1 0 (by omega)] at q
    simpa using q
  · intro h
    apply b_ext
    intro i hi
    rw [b_and, b_0, bt_1 i hi]
    by_cases h0 : i = 0
    · rw [h0, h]
      rfl
    · simp [h0]
def jn (F L r k : Nat) : Nat := if k = 1 then (if r ≤ 5 then (if r + 1 ≤ F then r + 1 else 0) else (if 1 ≤ F then 1 else 0)) else (if r ≤ 5 then (if 1 ≤ L then 6 else 0) else (if r ≤ L + 4 then r + 1 else 0))
def wy (F L : Nat) (ok : Nat → Nat → Bool) : Nat → Nat → Nat → Nat → Nat
  | 0, m, a, _ => if ok m a = true then 1 else 0
  | d + 1, m, a, r => if ok m a = true then (if jn F L r 0 = 0 then 0 else wy F L ok d (m + 1) a (jn F L r 0)) + (if jn F L r 1 = 0 then 0 else wy F L ok d (m + 1) (a + 1) (jn F L r 1)) else 0
theorem wy_0 {F L : Nat} {ok : Nat → Nat → Bool} {d m a r : Nat} (h : ¬ ok m a = true) : wy F L ok d m a r = 0 := by
  cases d with
  | zero => rw [wy, if_neg h]
  | succ d => rw [wy, if_neg h]
theorem wy_le (F L : Nat) (ok : Nat → Nat → Bool) : ∀ d m a r : Nat, wy F L ok d m a r ≤ 2 ^ d := by
  intro d
  induction d with
  | zero =>
    intro m a r
    rw [wy]
    split <;> simp
  | succ d ih =>
    intro m a r
    rw [wy]
    have h1 := ih (m + 1) a (jn F L r 0)
    have h2 := ih (m + 1) (a + 1) (jn F L r 1)
    have h3 : 2 ^ (d + 1) = 2 ^ d + 2 ^ d := by rw [Nat.pow_succ]; omega
    rw [h3]
    split
    · split <;> split <;> omega
    · omega
theorem jn_le (F L r k : Nat) (hF : F ≤ 5) (hL : L ≤ 5) : jn F L r k ≤ 10 := by
  unfold jn
  repeat' split
  all_goals omega
theorem pj_rb0 : ∀ F < 6, ∀ L < 6, ∀ r < 11, ∀ k < 2, fX12_runBehind (fun i => if i = 1 then nI F else nI L) (nI r) (nI k) = if jn F L r k = 0 then -1 else nI (jn F L r k) := by
  decide +kernel
theorem pj_rbc {mi mj : Nat → Int32} (h1 : mi 1 = mj 1) (h2 : mi 2 = mj 2) (x y : Int32) : fX12_runBehind mi x y = fX12_runBehind mj x y := by
  unfold fX12_runBehind bfX12_runBehind_34 bfX12_runBehind_52 bfX12_runBehind_69
  rw [h1, h2]
theorem pj_rb {mi : Nat → Int32} {F L r k : Nat} (h1 : mi 1 = nI F) (h2 : mi 2 = nI L) (hF : F ≤ 5) (hL : L ≤ 5) (hr : r ≤ 10) (hk : k ≤ 1) : fX12_runBehind mi (nI r) (nI k) = if jn F L r k = 0 then -1 else nI (jn F L r k) := by
  rw [pj_rbc (mj := fun i => if i = 1 then nI F else nI L) h1 h2]
  exact pj_rb0 F (by omega) L (by omega) r (by omega) k (by omega)
theorem pj_place (m a r : Nat) : fX12_placeOf (nI m) (nI a) (nI r) = nI (275 * m + 11 * a + r) := by
  unfold fX12_placeOf
  rw [show (275 : Int32) = nI 275 from rfl, show (11 : Int32) = nI 11 from rfl, pk_mul, pk_mul, nI_add, nI_add]
theorem pj_ways {mi w : Nat → Int32} {F L r k m a W : Nat} (h1 : mi 1 = nI F) (h2 : mi 2 = nI L) (hF : F ≤ 5) (hL : L ≤ 5) (hr : r ≤ 10) (hk : k ≤ 1) (hm : m ≤ 24) (ha : a ≤ 24) (hW : ¬ jn F L r k = 0 → w (275 * (m + 1) + 11 * (a + k) + jn F L r k) = nI W) : fX12_waysBy mi w (nI m) (nI a) (nI r) (nI k) = nI (if jn F L r k = 0 then 0 else W) := by
  have hj := jn_le F L r k hF hL
  unfold fX12_waysBy bfX12_waysBy_36
  rw [cal_b, pj_rb h1 h2 hF hL hr hk]
  by_cases hz : jn F L r k = 0
  · rw [if_pos hz, if_pos hz, if_pos rfl]
    rfl
  · rw [if_neg hz, if_neg hz, if_neg (fun q => by
      have q1 := congrArg Int32.toInt q
      rw [nI_toInt (by omega), show (-1 : Int32).toInt = -1 from by decide] at q1
      omega)]
    rw [cal_b, nI_1, nI_add, pj_place, nI_clamp (by omega)]
    exact hW hz
def wT (F L M : Nat) (ok : Nat → Nat → Bool) (w : Nat → Int32) (m a r : Nat) : Prop := ∀ m' a' r' : Nat, m' ≤ M → a' ≤ m' → r' ≤ 10 → (m < m' ∨ (m = m' ∧ (a' < a ∨ (a' = a ∧ r' < r)))) → w (275 * m' + 11 * a' + r') = nI (wy F L ok (M - m') m' a' r')
theorem wT_set {F L M : Nat} {ok : Nat → Nat → Bool} {w : Nat → Int32} {m a r : Nat} {v : Int32} (h : wT F L M ok w m a r) (hm : m ≤ M) (ha : a ≤ m) (hr : r ≤ 10) (hM : M ≤ 24) (hv : v = nI (wy F L ok (M - m) m a r)) : wT F L M ok (upd w (275 * m + 11 * a + r) v) m a (r + 1) := by
  intro m' a' r' h1 h2 h3 h4
  unfold upd
  by_cases hj : 275 * m' + 11 * a' + r' = 275 * m + 11 * a + r
  · rw [if_pos hj, hv]
    have e1 : m' = m := by omega
    have e2 : a' = a := by omega
    have e3 : r' = r := by omega
    rw [e1, e2, e3]
  · rw [if_neg hj]
    exact h m' a' r' h1 h2 h3 (by omega)
theorem pc_run {mi must least pin ways : Nat → Int32} {F L M : Nat} {ok : Nat → Nat → Bool} (h0 : mi 0 = nI M) (hM : M ≤ 24) (h1 : mi 1 = nI F) (h2 : mi 2 = nI L) (hF : F ≤ 5) (hL : L ≤ 5) {m a : Nat} (hm : m ≤ M) (ha : a ≤ m) {Q : Int32 × (Nat → Int32) → Prop} {z0 : Nat} (hK : ∀ (w : Nat → Int32) (z : Nat), z0 ≤ z → wT F L M ok w m (a + 1) 0 → Q ((lfX12_counts mi must least pin ways z).2.1 (nI m) (nI (a + 1)) w)) :
    ∀ (k r z : Nat) (w : Nat → Int32), r + k = 11 → z0 + k + 1 ≤ z → wT F L M ok w m a r → Q ((lfX12_counts mi must least pin ways z).2.2 (nI m) (nI a) (if ok m a = true then 1 else 0) (nI r) w) := by
  intro k
  induction k with
  | zero =>
    intro r z w hr hz hw
    obtain ⟨z, rfl⟩ : ∃ y, z = y + 1 := ⟨z - 1, by omega⟩
    show Q (dfX12_counts_46 mi must least pin ways (lfX12_counts mi must least pin ways z) (nI m) (nI a) (if ok m a = true then 1 else 0) (nI r) w)
    unfold dfX12_counts_46
    rw [if_pos (show (10 : Int32) < nI r from nI_lt (a := 10) (by omega) (by omega)), nI_1 a]
    exact hK w z (by omega) (fun m' a' r' q1 q2 q3 q4 => hw m' a' r' q1 q2 q3 (by omega))
  | succ k ih =>
    intro r z w hr hz hw
    obtain ⟨z, rfl⟩ : ∃ y, z = y + 1 := ⟨z - 1, by omega⟩
    show Q (dfX12_counts_46 mi must least pin ways (lfX12_counts mi must least pin ways z) (nI m) (nI a) (if ok m a = true then 1 else 0) (nI r) w)
    unfold dfX12_counts_46
    rw [if_neg (show ¬ (10 : Int32) < nI r from nI_nlt (a := 10) (by omega) (by omega))]
    have hset : ∀ v : Int32, v = nI (wy F L ok (M - m) m a r) → Q (bfX12_counts_92 mi must least pin ways (lfX12_counts mi must least pin ways z) (nI m) (nI a) (if ok m a = true then 1 else 0) (nI r) v w) := by
      intro v hv
      unfold bfX12_counts_92
      rw [cal_b, pj_place, nI_clamp (by omega), nI_1]
      exact ih (r + 1) z _ (by omega) (by omega) (wT_set hw hm ha (by omega) hM hv)
    by_cases hok : ok m a = true
    · rw [if_pos hok] at hset ⊢
      rw [if_neg (by decide : ¬ (1 : Int32) = 0)]
      by_cases hMm : m = M
      · rw [if_pos (by rw [h0, hMm])]
        exact hset 1 (by rw [hMm, Nat.sub_self, wy, if_pos (hMm ▸ hok)]; rfl)
      · rw [if_neg (fun q => hMm ((nI_eq (by omega) (by omega)).1 (q.trans h0)))]
        obtain ⟨d, hd⟩ : ∃ d, M - m = d + 1 := ⟨M - m - 1, by omega⟩
        have hd2 : M - (m + 1) = d := by omega
        have g : ∀ k : Nat, k ≤ 1 → ¬ jn F L r k = 0 → w (275 * (m + 1) + 11 * (a + k) + jn F L r k) = nI (wy F L ok d (m + 1) (a + k) (jn F L r k)) := by
          intro k hk _
          have q := hw (m + 1) (a + k) (jn F L r k) (by omega) (by omega) (jn_le F L r k hF hL) (by omega)
          rw [hd2] at q
          exact q
        have e0 := pj_ways (mi := mi) (w := w) (k := 0) h1 h2 hF hL (show r ≤ 10 by omega) (by omega) (show m ≤ 24 by omega) (show a ≤ 24 by omega) (g 0 (by omega))
        have e1 := pj_ways (mi := mi) (w := w) (k := 1) h1 h2 hF hL (show r ≤ 10 by omega) (by omega) (show m ≤ 24 by omega) (show a ≤ 24 by omega) (g 1 (by omega))
        rw [nI_0] at e0
        rw [show nI 1 = (1 : Int32) from rfl] at e1
        rw [cal_b, cal_b, e0, e1]
        exact hset _ (by rw [nI_add, hd, wy, if_pos hok]; rfl)
    · rw [if_neg hok] at hset ⊢
      rw [if_pos rfl]
      exact hset 0 (by rw [wy_0 hok]; rfl)
theorem pc_full {mi must least pin ways : Nat → Int32} {F L M : Nat} {ok : Nat → Nat → Bool} (h0 : mi 0 = nI M) (hM : M ≤ 24) (h1 : mi 1 = nI F) (h2 : mi 2 = nI L) (hF : F ≤ 5) (hL : L ≤ 5) {m : Nat} (hm : m ≤ M) (hok : ∀ a : Nat, a ≤ m → (ok m a = true ↔ (mi 37 = 0 ∧ ¬ fX12_isOpen must least pin (nI m) (nI (29 * m + a)) = 0))) {Q : Int32 × (Nat → Int32) → Prop} {z0 : Nat} (hK : ∀ (w : Nat → Int32) (z : Nat), z0 ≤ z → wT F L M ok w m (m + 1) 0 → Q ((lfX12_counts mi must least pin ways z).1 (nI m + (-1 : Int32)) w)) :
    ∀ (k a z : Nat) (w : Nat → Int32), a + k = m + 1 → z0 + 13 * k + 1 ≤ z → wT F L M ok w m a 0 → Q ((lfX12_counts mi must least pin ways z).2.1 (nI m) (nI a) w) := by
  intro k
  induction k with
  | zero =>
    intro a z w ha hz hw
    obtain ⟨z, rfl⟩ : ∃ y, z = y + 1 := ⟨z - 1, by omega⟩
    show Q (dfX12_counts_11 mi must least pin ways (lfX12_counts mi must least pin ways z) (nI m) (nI a) w)
    unfold dfX12_counts_11
    rw [if_pos (nI_lt (show m < a by omega) (by omega))]
    have ea : a = m + 1 := by omega
    subst ea
    exact hK w z (by omega) hw
  | succ k ih =>
    intro a z w ha hz hw
    obtain ⟨z, rfl⟩ : ∃ y, z = y + 1 := ⟨z - 1, by omega⟩
    show Q (dfX12_counts_11 mi must least pin ways (lfX12_counts mi must least pin ways z) (nI m) (nI a) w)
    unfold dfX12_counts_11
    rw [if_neg (nI_nlt (show a ≤ m by omega) (by omega)), show (29 : Int32) * nI m + nI a = nI (29 * m + a) from by rw [show (29 : Int32) = nI 29 from rfl, pk_mul, nI_add]]
    have hgo : Q (bfX12_counts_42 mi must least pin ways (lfX12_counts mi must least pin ways z) (nI m) (nI a) (if ok m a = true then 1 else 0) w) := by
      unfold bfX12_counts_42
      rw [← nI_0]
      exact pc_run h0 hM h1 h2 hF hL hm (by omega) (z0 := z0 + 13 * k + 1) (fun w z q1 q2 => ih (a + 1) z w (by omega) q1 q2) 11 0 z w rfl (by omega) hw
    have ho := hok a (by omega)
    by_cases h37 : mi 37 = 0
    · rw [if_pos h37, cal_b]
      by_cases hi : fX12_isOpen must least pin (nI m) (nI (29 * m + a)) = 0
      · rw [if_pos hi]
        rw [if_neg (fun q => (ho.1 q).2 hi)] at hgo
        exact hgo
      · rw [if_neg hi]
        rw [if_pos (ho.2 ⟨h37, hi⟩)] at hgo
        exact hgo
    · rw [if_neg h37]
      rw [if_neg (fun q => h37 (ho.1 q).1)] at hgo
      exact hgo
theorem pc_outer {mi must least pin ways : Nat → Int32} {F L M : Nat} {ok : Nat → Nat → Bool} (h0 : mi 0 = nI M) (hM : M ≤ 24) (h1 : mi 1 = nI F) (h2 : mi 2 = nI L) (hF : F ≤ 5) (hL : L ≤ 5) (hok : ∀ m a : Nat, m ≤ M → a ≤ m → (ok m a = true ↔ (mi 37 = 0 ∧ ¬ fX12_isOpen must least pin (nI m) (nI (29 * m + a)) = 0))) :
    ∀ (k z : Nat) (w : Nat → Int32), k ≤ M + 1 → 400 * k + 2 ≤ z → (∀ m' a' r' : Nat, m' ≤ M → a' ≤ m' → r' ≤ 10 → k ≤ m' → w (275 * m' + 11 * a' + r') = nI (wy F L ok (M - m') m' a' r')) →
      ((lfX12_counts mi must least pin ways z).1 (nI k - (1 : Int32)) w).1 = nI (wy F L ok M 0 0 0) ∧ ∀ m' a' r' : Nat, m' ≤ M → a' ≤ m' → r' ≤ 10 → ((lfX12_counts mi must least pin ways z).1 (nI k - (1 : Int32)) w).2 (275 * m' + 11 * a' + r') = nI (wy F L ok (M - m') m' a' r') := by
  intro k
  induction k with
  | zero =>
    intro z w _ hz hw
    obtain ⟨z, rfl⟩ : ∃ y, z = y + 1 := ⟨z - 1, by omega⟩
    have e : (lfX12_counts mi must least pin ways (z + 1)).1 (nI 0 - (1 : Int32)) w = (w 0, w) := by
      show dfX12_counts_5 mi must least pin ways (lfX12_counts mi must least pin ways z) (nI 0 - (1 : Int32)) w = _
      unfold dfX12_counts_5
      rw [if_pos (by decide)]
      rfl
    rw [e]
    exact ⟨hw 0 0 0 (by omega) (by omega) (by omega) (by omega), fun m' a' r' q1 q2 q3 => hw m' a' r' q1 q2 q3 (by omega)⟩
  | succ k ih =>
    intro z w hk hz hw
    obtain ⟨z, rfl⟩ : ∃ y, z = y + 1 := ⟨z - 1, by omega⟩
    have e : (lfX12_counts mi must least pin ways (z + 1)).1 (nI (k + 1) - (1 : Int32)) w = (lfX12_counts mi must least pin ways z).2.1 (nI k) (nI 0) w := by
      show dfX12_counts_5 mi must least pin ways (lfX12_counts mi must least pin ways z) (nI (k + 1) - (1 : Int32)) w = _
      unfold dfX12_counts_5
      rw [nI_pred, if_neg (nI_pos (by omega)), nI_0]
    rw [e]
    refine pc_full (Q := fun o => o.1 = nI (wy F L ok M 0 0 0) ∧ ∀ m' a' r' : Nat, m' ≤ M → a' ≤ m' → r' ≤ 10 → o.2 (275 * m' + 11 * a' + r') = nI (wy F L ok (M - m') m' a' r')) (z0 := 400 * k + 2) h0 hM h1 h2 hF hL (m := k) (by omega) (fun a ha => hok k a (by omega) ha) ?_ (k + 1) 0 z w (by omega) (by omega) ?_
    · intro w z hz hw
      rw [show nI k + (-1 : Int32) = nI k - (1 : Int32) from by rw [Int32.sub_eq_add_neg]]
      exact ih z w (by omega) hz (fun m' a' r' q1 q2 q3 q4 => hw m' a' r' q1 q2 q3 (by omega))
    · exact fun m' a' r' q1 q2 q3 q4 => hw m' a' r' q1 q2 q3 (by omega)
theorem pc_counts {mi must least pin ways : Nat → Int32} {F L M : Nat} {ok : Nat → Nat → Bool} (h0 : mi 0 = nI M) (hM : M ≤ 24) (h1 : mi 1 = nI F) (h2 : mi 2 = nI L) (hF : F ≤ 5) (hL : L ≤ 5) (hok : ∀ m a : Nat, m ≤ M → a ≤ m → (ok m a = true ↔ (mi 37 = 0 ∧ ¬ fX12_isOpen must least pin (nI m) (nI (29 * m + a)) = 0))) :
    (fX12_counts mi must least pin ways).1 = nI (wy F L ok M 0 0 0) ∧ ∀ m' a' r' : Nat, m' ≤ M → a' ≤ m' → r' ≤ 10 → (fX12_counts mi must least pin ways).2 (275 * m' + 11 * a' + r') = nI (wy F L ok (M - m') m' a' r') := by
  unfold fX12_counts
  rw [h0, show nI M = nI (M + 1) - (1 : Int32) from (nI_pred M).symm]
  exact pc_outer h0 hM h1 h2 hF hL hok (M + 1) 1000000000 ways (by omega) (by omega) (fun m' a' r' q1 q2 q3 q4 => absurd q4 (by omega))
def cf (F c : Nat) : Nat := if c = 0 ∨ F < c then 1 else if c < F then c + 1 else 0
def cl (F L c : Nat) : Nat := if c ≤ F then F + 1 else if c < F + L then c + 1 else 0
def rho (F c : Nat) : Nat := if c ≤ F then c else c - F + 5
theorem pj_rwf0 : ∀ F < 6, ∀ c < 11, fX11_runWithFull (nI c) (nI F) = nI (cf F c) := by
  decide +kernel
theorem pj_rwl0 : ∀ F < 6, ∀ L < 6, ∀ c < 11, fX11_runWithLean (nI c) (nI F) (nI L) = nI (cl F L c) := by
  decide +kernel
theorem pj_rf {F c : Nat} (hF : F ≤ 5) (hc : c ≤ 10) : fX11_runWithFull (nI c) (nI F) = nI (cf F c) := pj_rwf0 F (by omega) c (by omega)
theorem pj_rl {F L c : Nat} (hF : F ≤ 5) (hL : L ≤ 5) (hc : c ≤ 10) : fX11_runWithLean (nI c) (nI F) (nI L) = nI (cl F L c) := pj_rwl0 F (by omega) L (by omega) c (by omega)
theorem cf_jn0 : ∀ F < 6, ∀ L < 6, ∀ c < 11, (¬ (1 ≤ F ∧ 1 ≤ L ∧ c ≤ F + L)) ∨ (jn F L (rho F c) 1 = (if cf F c = 0 then 0 else rho F (cf F c)) ∧ jn F L (rho F c) 0 = (if cl F L c = 0 then 0 else rho F (cl F L c)) ∧ cf F c ≤ F + L ∧ cl F L c ≤ F + L) := by
  decide +kernel
theorem cf_jn {F L c : Nat} (hF1 : 1 ≤ F) (hL1 : 1 ≤ L) (hF : F ≤ 5) (hL : L ≤ 5) (hc : c ≤ F + L) : jn F L (rho F c) 1 = (if cf F c = 0 then 0 else rho F (cf F c)) ∧ jn F L (rho F c) 0 = (if cl F L c = 0 then 0 else rho F (cl F L c)) ∧ cf F c ≤ F + L ∧ cl F L c ≤ F + L := (cf_jn0 F (by omega) L (by omega) c (by omega)).resolve_left (fun q => q ⟨hF1, hL1, hc⟩)
theorem rho_0 {F c : Nat} (h : ¬ c = 0) : ¬ rho F c = 0 := by
  unfold rho
  split <;> omega
def oV (F L m c : Nat) : Prop := (m = 0 ∧ c = 0) ∨ (1 ≤ m ∧ 1 ≤ c ∧ c ≤ F + L)
def oE (F L M : Nat) (ok : Nat → Nat → Bool) (x : Int32) (m c : Nat) : Prop := ∀ i : Nat, i < 32 → bt x i = decide (i ≤ m ∧ 0 < wy F L ok (M - m) m i (rho F c))
def oT (F L M : Nat) (ok : Nat → Nat → Bool) (f : Nat → Int32) (m c : Nat) : Prop := ∀ m' c' : Nat, m' ≤ M → oV F L m' c' → (m < m' ∨ (m = m' ∧ c' < c)) → oE F L M ok (f (11 * m' + c')) m' c'
def oZ (f : Nat → Int32) : Prop := ∀ m : Nat, 1 ≤ m → m ≤ 24 → f (11 * m) = 0
theorem oT_set {F L M : Nat} {ok : Nat → Nat → Bool} {f : Nat → Int32} {m c : Nat} {v : Int32} (h : oT F L M ok f m c) (hFL : F + L ≤ 10) (hc : c ≤ F + L) (hv : oE F L M ok v m c) : oT F L M ok (upd f (11 * m + c) v) m (c + 1) := by
  intro m' c' h1 h2 h4
  have hc' : c' ≤ 10 := by
    rcases h2 with h2 | h2 <;> omega
  unfold upd
  by_cases hj : 11 * m' + c' = 11 * m + c
  · rw [if_pos hj]
    have e1 : m' = m := by omega
    have e2 : c' = c := by omega
    rw [e1, e2]
    exact hv
  · rw [if_neg hj]
    exact h m' c' h1 h2 (by omega)
theorem oZ_set {f : Nat → Int32} {k : Nat} {v : Int32} (h : oZ f) (hk : ∀ m : Nat, 1 ≤ m → ¬ 11 * m = k) : oZ (upd f k v) := by
  intro m h1 h2
  unfold upd
  rw [if_neg (hk m h1)]
  exact h m h1 h2
theorem oE_last {F L M : Nat} {ok : Nat → Nat → Bool} {x : Int32} {c : Nat} (hx : ∀ i : Nat, i < 32 → bt x i = (decide (i ≤ M) && ok M i)) : oE F L M ok x M c := by
  intro i hi
  rw [hx i hi, Nat.sub_self, wy]
  by_cases h1 : i ≤ M
  · by_cases h2 : ok M i = true
    · rw [if_pos h2, h2]
      simp [h1]
    · rw [if_neg h2]
      simp [h1, h2]
  · simp [h1]
theorem oE_cell {F L M m c : Nat} {ok : Nat → Nat → Bool} {x y0 y1 : Int32} (hF1 : 1 ≤ F) (hL1 : 1 ≤ L) (hF : F ≤ 5) (hL : L ≤ 5) (hc : c ≤ F + L) (hm : m < M) (hM : M ≤ 24) (hx : ∀ i : Nat, i < 32 → bt x i = (decide (i ≤ m) && ok m i)) (h1 : if cf F c = 0 then y1 = 0 else oE F L M ok y1 (m + 1) (cf F c)) (h0 : if cl F L c = 0 then y0 = 0 else oE F L M ok y0 (m + 1) (cl F L c)) : oE F L M ok (x &&& ((y1 >>> ((1 : Int32) &&& 31)) ||| y0)) m c := by
  intro i hi
  obtain ⟨j1, j0, _, _⟩ := cf_jn hF1 hL1 hF hL hc
  rw [b_and, b_or, hx i hi]
  by_cases him : i ≤ m
  · have hs := b_sshr 1 (by omega) y1 hi
    rw [show nI 1 = (1 : Int32) from rfl, if_pos (by omega)] at hs
    rw [hs]
    obtain ⟨d, hd⟩ : ∃ d, M - m = d + 1 := ⟨M - m - 1, by omega⟩
    have hd2 : M - (m + 1) = d := by omega
    rw [hd, wy]
    by_cases hok : ok m i = true
    · rw [if_pos hok, hok, j1, j0]
      have e1 : bt y1 (1 + i) = decide (0 < (if (if cf F c = 0 then 0 else rho F (cf F c)) = 0 then 0 else wy F L ok d (m + 1) (i + 1) (if cf F c = 0 then 0 else rho F (cf F c)))) := by
        by_cases hz : cf F c = 0
        · rw [if_pos hz] at h1
          rw [h1, b_0, if_pos hz, if_pos rfl]
          rfl
        · rw [if_neg hz] at h1
          have q := h1 (1 + i) (by omega)
          rw [hd2] at q
          rw [if_neg hz, if_neg (rho_0 hz), q, show 1 + i = i + 1 from by omega]
          simp [him]
      have e0 : bt y0 i = decide (0 < (if (if cl F L c = 0 then 0 else rho F (cl F L c)) = 0 then 0 else wy F L ok d (m + 1) i (if cl F L c = 0 then 0 else rho F (cl F L c)))) := by
        by_cases hz : cl F L c = 0
        · rw [if_pos hz] at h0
          rw [h0, b_0, if_pos hz, if_pos rfl]
          rfl
        · rw [if_neg hz] at h0
          have q := h0 i hi
          rw [hd2] at q
          rw [if_neg hz, if_neg (rho_0 hz), q]
          have : i ≤ m + 1 := by omega
          simp [this]
      rw [e1, e0]
      generalize (if (if cf F c = 0 then 0 else rho F (cf F c)) = 0 then 0 else wy F L ok d (m + 1) (i + 1) (if cf F c = 0 then 0 else rho F (cf F c))) = A
      generalize (if (if cl F L c = 0 then 0 else rho F (cl F L c)) = 0 then 0 else wy F L ok d (m + 1) i (if cl F L c = 0 then 0 else rho F (cl F L c))) = B
      by_cases hA : 0 < A
      · have : 0 < B + A := by omega
        simp [him, hA, this]
      · have hA0 : A = 0 := by omega
        rw [hA0]
        simp [him]
    · rw [if_neg hok]
      simp [hok]
  · simp [him]
def fxA (f : Nat → Int32) (M : Nat) (ok : Nat → Nat → Bool) : Prop := ∀ m : Nat, m ≤ M → ∀ i : Nat, i < 32 → bt (f m) i = (decide (i ≤ m) && ok m i)
theorem pf_run {fal fon : Nat → Int32} {F L M : Nat} {ok : Nat → Nat → Bool} (hM : M ≤ 24) (hF1 : 1 ≤ F) (hL1 : 1 ≤ L) (hF : F ≤ 5) (hL : L ≤ 5) (hA : fxA fal M ok) {m : Nat} (hm : m < M) {Q : Int32 × (Nat → Int32) → Prop} {z0 : Nat} (hK : ∀ (w : Nat → Int32) (z : Nat), z0 ≤ z → oZ w → oT F L M ok w m 11 → Q ((lfX3_fits (nI M) (nI F) (nI L) fal fon z).2.1 (nI m + (-1 : Int32)) w)) :
    ∀ (k c z : Nat) (w : Nat → Int32), c + k = (if m = 0 then 0 else F + L) + 1 → (if m = 0 then 0 else 1) ≤ c → z0 + k + 1 ≤ z → oZ w → oT F L M ok w m c → Q ((lfX3_fits (nI M) (nI F) (nI L) fal fon z).2.2 (nI m) (nI (11 * (m + 1))) (nI c) w) := by
  have hlast : fX11_lastRun (nI m) (nI F) (nI L) = nI (if m = 0 then 0 else F + L) := by
    unfold fX11_lastRun bfX11_lastRun_11
    by_cases h : m = 0
    · rw [h, if_pos rfl, if_pos nI_0]
      rfl
    · rw [if_neg h, if_neg (nI_ne0 (by omega) (by omega)), nI_add]
  intro k
  induction k with
  | zero =>
    intro c z w hc hc1 hz hZ hw
    obtain ⟨z, rfl⟩ : ∃ y, z = y + 1 := ⟨z - 1, by omega⟩
    show Q (dfX3_fits_67 (nI M) (nI F) (nI L) fal fon (lfX3_fits (nI M) (nI F) (nI L) fal fon z) (nI m) (nI (11 * (m + 1))) (nI c) w)
    unfold dfX3_fits_67
    have hle : (if m = 0 then 0 else F + L) ≤ 10 := by split <;> omega
    rw [cal_b, hlast, if_pos (nI_lt (by omega) (by omega))]
    refine hK w z (by omega) hZ (fun m' c' q1 q2 q3 => hw m' c' q1 q2 ?_)
    rcases q3 with q3 | ⟨q3, q4⟩
    · exact Or.inl q3
    · refine Or.inr ⟨q3, ?_⟩
      rcases q2 with ⟨q5, q6⟩ | ⟨q5, q6, q7⟩
      · rw [if_pos (by omega)] at hc
        omega
      · rw [if_neg (by omega)] at hc
        omega
  | succ k ih =>
    intro c z w hc hc1 hz hZ hw
    obtain ⟨z, rfl⟩ : ∃ y, z = y + 1 := ⟨z - 1, by omega⟩
    show Q (dfX3_fits_67 (nI M) (nI F) (nI L) fal fon (lfX3_fits (nI M) (nI F) (nI L) fal fon z) (nI m) (nI (11 * (m + 1))) (nI c) w)
    unfold dfX3_fits_67
    have hle : (if m = 0 then 0 else F + L) ≤ F + L := by split <;> omega
    have hcv : oV F L m c := by
      by_cases h : m = 0
      · rw [if_pos h] at hc
        exact Or.inl ⟨h, by omega⟩
      · rw [if_neg h] at hc hc1
        exact Or.inr ⟨by omega, by omega, by omega⟩
    obtain ⟨_, _, j1, j0⟩ := cf_jn hF1 hL1 hF hL (show c ≤ F + L by omega)
    rw [cal_b, hlast, if_neg (nI_nlt (by omega) (by omega)), cal_b, cal_b, pj_rf hF (by omega), pj_rl hF hL (by omega), nI_add, nI_add, nI_clamp (by omega), nI_clamp (by omega), nI_clamp (by omega), show nI m * (11 : Int32) + nI c = nI (11 * m + c) from by rw [show (11 : Int32) = nI 11 from rfl, pk_mul, nI_add, Nat.mul_comm], nI_clamp (by omega), nI_1]
    have hcell : oE F L M ok (fal m &&& ((w (11 * (m + 1) + cf F c) >>> ((1 : Int32) &&& 31)) ||| w (11 * (m + 1) + cl F L c))) m c := by
      refine oE_cell hF1 hL1 hF hL (by omega) hm hM (hA m (by omega)) ?_ ?_
      · by_cases h : cf F c = 0
        · rw [if_pos h, h]
          exact hZ (m + 1) (by omega) (by omega)
        · rw [if_neg h]
          exact hw (m + 1) (cf F c) (by omega) (Or.inr ⟨by omega, by omega, by omega⟩) (Or.inl (by omega))
      · by_cases h : cl F L c = 0
        · rw [if_pos h, h]
          exact hZ (m + 1) (by omega) (by omega)
        · rw [if_neg h]
          exact hw (m + 1) (cl F L c) (by omega) (Or.inr ⟨by omega, by omega, by omega⟩) (Or.inl (by omega))
    refine ih (c + 1) z _ (by omega) (by omega) (by omega) (oZ_set hZ ?_) (oT_set hw (by omega) (by omega) hcell)
    intro m' q1 q2
    rcases hcv with ⟨q3, q4⟩ | ⟨q3, q4, q5⟩ <;> omega
theorem pf_outer {fal fon : Nat → Int32} {F L M : Nat} {ok : Nat → Nat → Bool} (hM : M ≤ 24) (hF1 : 1 ≤ F) (hL1 : 1 ≤ L) (hF : F ≤ 5) (hL : L ≤ 5) (hA : fxA fal M ok) :
    ∀ (k z : Nat) (w : Nat → Int32), k ≤ M → 20 * k + 2 ≤ z → oZ w → (∀ m' c' : Nat, m' ≤ M → oV F L m' c' → k ≤ m' → oE F L M ok (w (11 * m' + c')) m' c') →
      ((lfX3_fits (nI M) (nI F) (nI L) fal fon z).2.1 (nI k - (1 : Int32)) w).1 = (if 0 < wy F L ok M 0 0 0 then 1 else 0) ∧ oZ ((lfX3_fits (nI M) (nI F) (nI L) fal fon z).2.1 (nI k - (1 : Int32)) w).2 ∧ ∀ m' c' : Nat, m' ≤ M → oV F L m' c' → oE F L M ok (((lfX3_fits (nI M) (nI F) (nI L) fal fon z).2.1 (nI k - (1 : Int32)) w).2 (11 * m' + c')) m' c' := by
  intro k
  induction k with
  | zero =>
    intro z w _ hz hZ hw
    obtain ⟨z, rfl⟩ : ∃ y, z = y + 1 := ⟨z - 1, by omega⟩
    have h00 := hw 0 0 (by omega) (Or.inl ⟨rfl, rfl⟩) (by omega) 0 (by omega)
    have hr0 : rho F 0 = 0 := by unfold rho; rw [if_pos (by omega)]
    rw [Nat.sub_zero, hr0] at h00
    have e : (lfX3_fits (nI M) (nI F) (nI L) fal fon (z + 1)).2.1 (nI 0 - (1 : Int32)) w = ((if 0 < wy F L ok M 0 0 0 then 1 else 0), w) := by
      show dfX3_fits_51 (nI M) (nI F) (nI L) fal fon (lfX3_fits (nI M) (nI F) (nI L) fal fon z) (nI 0 - (1 : Int32)) w = _
      unfold dfX3_fits_51 bfX3_fits_174
      rw [if_pos (by decide)]
      have hb : (w (0 : Int32).toNatClampNeg &&& (1 : Int32)) = 0 ↔ bt (w 0) 0 = false := by
        rw [show (0 : Int32).toNatClampNeg = 0 from rfl]
        exact bt_and1 (w 0)
      by_cases h : 0 < wy F L ok M 0 0 0
      · rw [if_neg (fun q => by rw [hb.1 q] at h00; simp [h] at h00), if_pos h]
      · rw [if_pos (hb.2 (by rw [h00]; simp [h])), if_neg h]
    rw [e]
    exact ⟨rfl, hZ, fun m' c' q1 q2 => hw m' c' q1 q2 (by omega)⟩
  | succ k ih =>
    intro z w hk hz hZ hw
    obtain ⟨z, rfl⟩ : ∃ y, z = y + 1 := ⟨z - 1, by omega⟩
    have e : (lfX3_fits (nI M) (nI F) (nI L) fal fon (z + 1)).2.1 (nI (k + 1) - (1 : Int32)) w = (lfX3_fits (nI M) (nI F) (nI L) fal fon z).2.2 (nI k) (nI (11 * (k + 1))) (nI (if k = 0 then 0 else 1)) w := by
      show dfX3_fits_51 (nI M) (nI F) (nI L) fal fon (lfX3_fits (nI M) (nI F) (nI L) fal fon z) (nI (k + 1) - (1 : Int32)) w = _
      unfold dfX3_fits_51
      rw [nI_pred, if_neg (nI_pos (by omega)), cal_b, nI_1, show nI (k + 1) * (11 : Int32) = nI (11 * (k + 1)) from by rw [show (11 : Int32) = nI 11 from rfl, pk_mul, Nat.mul_comm]]
      have ef : fX11_firstRun (nI k) = nI (if k = 0 then 0 else 1) := by
        unfold fX11_firstRun bfX11_firstRun_9
        by_cases h : k = 0
        · rw [h, if_pos rfl, if_pos nI_0]
          rfl
        · rw [if_neg h, if_neg (nI_ne0 (by omega) (by omega))]
          rfl
      rw [ef]
    rw [e]
    have hb : (if k = 0 then 0 else 1) ≤ (if k = 0 then 0 else F + L) + 1 ∧ (if k = 0 then 0 else F + L) + 1 - (if k = 0 then 0 else 1) ≤ 11 := by
      split <;> constructor <;> omega
    refine pf_run (Q := fun o => o.1 = (if 0 < wy F L ok M 0 0 0 then 1 else 0) ∧ oZ o.2 ∧ ∀ m' c' : Nat, m' ≤ M → oV F L m' c' → oE F L M ok (o.2 (11 * m' + c')) m' c') (z0 := 20 * k + 2) hM hF1 hL1 hF hL hA (m := k) (by omega) ?_ ((if k = 0 then 0 else F + L) + 1 - (if k = 0 then 0 else 1)) (if k = 0 then 0 else 1) z w (by omega) (Nat.le_refl _) (by omega) hZ ?_
    · intro w z hz hZ hw
      rw [show nI k + (-1 : Int32) = nI k - (1 : Int32) from by rw [Int32.sub_eq_add_neg]]
      refine ih z w (by omega) hz hZ (fun m' c' q1 q2 q3 => hw m' c' q1 q2 ?_)
      have : c' ≤ 10 := by rcases q2 with q2 | q2 <;> omega
      omega
    · intro m' c' q1 q2 q3
      refine hw m' c' q1 q2 ?_
      rcases q3 with q3 | ⟨q3, q4⟩
      · omega
      · exfalso
        rcases q2 with ⟨q5, q6⟩ | ⟨q5, q6, q7⟩
        · rw [if_pos (by omega)] at q4
          omega
        · rw [if_neg (by omega)] at q4
          omega
theorem pf_top {fal fon : Nat → Int32} {F L M : Nat} {ok : Nat → Nat → Bool} (hM1 : 1 ≤ M) (hM : M ≤ 24) (hF1 : 1 ≤ F) (hL1 : 1 ≤ L) (hF : F ≤ 5) (hL : L ≤ 5) (hA : fxA fal M ok) {Q : Int32 × (Nat → Int32) → Prop} {z0 : Nat} (hK : ∀ (w : Nat → Int32) (z : Nat), z0 ≤ z → oZ w → oT F L M ok w M 11 → Q ((lfX3_fits (nI M) (nI F) (nI L) fal fon z).2.1 (nI M - (1 : Int32)) w)) :
    ∀ (k c z : Nat) (w : Nat → Int32), c + k = F + L + 1 → 1 ≤ c → z0 + k + 1 ≤ z → oZ w → oT F L M ok w M c → Q ((lfX3_fits (nI M) (nI F) (nI L) fal fon z).1 (nI c) w) := by
  intro k
  induction k with
  | zero =>
    intro c z w hc hc1 hz hZ hw
    obtain ⟨z, rfl⟩ : ∃ y, z = y + 1 := ⟨z - 1, by omega⟩
    show Q (dfX3_fits_2 (nI M) (nI F) (nI L) fal fon (lfX3_fits (nI M) (nI F) (nI L) fal fon z) (nI c) w)
    unfold dfX3_fits_2
    rw [nI_add, if_pos (nI_lt (by omega) (by omega))]
    refine hK w z (by omega) hZ (fun m' c' q1 q2 q3 => hw m' c' q1 q2 ?_)
    rcases q2 with q2 | q2 <;> omega
  | succ k ih =>
    intro c z w hc hc1 hz hZ hw
    obtain ⟨z, rfl⟩ : ∃ y, z = y + 1 := ⟨z - 1, by omega⟩
    show Q (dfX3_fits_2 (nI M) (nI F) (nI L) fal fon (lfX3_fits (nI M) (nI F) (nI L) fal fon z) (nI c) w)
    unfold dfX3_fits_2
    rw [nI_add, if_neg (nI_nlt (by omega) (by omega)), nI_1, show nI M * (11 : Int32) + nI c = nI (11 * M + c) from by rw [show (11 : Int32) = nI 11 from rfl, pk_mul, nI_add, Nat.mul_comm], nI_clamp (by omega), nI_clamp (by omega)]
    exact ih (c + 1) z _ (by omega) (by omega) (by omega) (oZ_set hZ (fun m' q1 q2 => by omega)) (oT_set hw (by omega) (by omega) (oE_last (hA M (Nat.le_refl _))))
theorem pf_fits {fal fon : Nat → Int32} {F L M : Nat} {ok : Nat → Nat → Bool} (hM1 : 1 ≤ M) (hM : M ≤ 24) (hF1 : 1 ≤ F) (hL1 : 1 ≤ L) (hF : F ≤ 5) (hL : L ≤ 5) (hA : fxA fal M ok) (hZ : oZ fon) :
    (fX3_fits (nI M) (nI F) (nI L) fal fon).1 = (if 0 < wy F L ok M 0 0 0 then 1 else 0) ∧ oZ (fX3_fits (nI M) (nI F) (nI L) fal fon).2 ∧ ∀ m' c' : Nat, m' ≤ M → oV F L m' c' → oE F L M ok ((fX3_fits (nI M) (nI F) (nI L) fal fon).2 (11 * m' + c')) m' c' := by
  unfold fX3_fits
  rw [show (1 : Int32) = nI 1 from rfl]
  refine pf_top (Q := fun o => o.1 = (if 0 < wy F L ok M 0 0 0 then 1 else 0) ∧ oZ o.2 ∧ ∀ m' c' : Nat, m' ≤ M → oV F L m' c' → oE F L M ok (o.2 (11 * m' + c')) m' c') (z0 := 1000) hM1 hM hF1 hL1 hF hL hA ?_ (F + L) 1 1000000000 fon (by omega) (by omega) (by omega) hZ ?_
  · intro w z hz hZ hw
    exact pf_outer hM hF1 hL1 hF hL hA M z w (Nat.le_refl _) (by omega) hZ (fun m' c' q1 q2 q3 => hw m' c' q1 q2 (by rcases q2 with q2 | q2 <;> omega))
  · intro m' c' q1 q2 q3
    rcases q2 with q2 | q2 <;> omega
theorem op_bit : ∀ m, m < 25 → ∀ i, i < 32 → bt (((2 : Int32) <<< (nI m &&& 31)) - (1 : Int32)) i = decide (i ≤ m) := by
  decide +kernel
theorem opn_s (fal : Nat → Int32) (M F L : Int32) (z : Nat) (v a b c : Int32) (w : Nat → Int32) : lfX3_open fal M F L (z + 1) v a b c w = dfX3_open_26 fal M F L (lfX3_open fal M F L z) v a b c w := rfl
theorem op_L {fal : Nat → Int32} {am af al : Int32} {M : Nat} {F L : Int32} (hM : M ≤ 24) : ∀ (k m z : Nat) (w : Nat → Int32), m + k = M + 1 → k < z → ∃ g : Nat → Int32, lfX3_open fal am af al z (nI m) (nI M) F L w = (nI M, F, L, g) ∧ (∀ j, m ≤ j → j ≤ M → g j = ((2 : Int32) <<< (nI j &&& 31)) - (1 : Int32)) ∧ ∀ j, j < m → g j = w j := by
  intro k
  induction k with
  | zero =>
    intro m z w hm hz
    obtain ⟨z, rfl⟩ : ∃ y, z = y + 1 := ⟨z - 1, by omega⟩
    refine ⟨w, ?_, fun j h1 h2 => absurd h2 (by omega), fun j _ => rfl⟩
    rw [opn_s]
    unfold dfX3_open_26
    rw [if_pos (nI_lt (by omega) (by omega))]
  | succ k ih =>
    intro m z w hm hz
    obtain ⟨z, rfl⟩ : ∃ y, z = y + 1 := ⟨z - 1, by omega⟩
    obtain ⟨g, h1, h2, h3⟩ := ih (m + 1) z (upd w m (((2 : Int32) <<< (nI m &&& 31)) - (1 : Int32))) (by omega) (by omega)
    refine ⟨g, ?_, ?_, ?_⟩
    · rw [opn_s]
      unfold dfX3_open_26
      rw [if_neg (nI_nlt (by omega) (by omega)), nI_1, nI_clamp (by omega)]
      exact h1
    · intro j q1 q2
      by_cases e : j = m
      · rw [e, h3 m (by omega)]
        exact if_pos rfl
      · exact h2 j (by omega) q2
    · intro j q
      rw [h3 j (by omega)]
      exact if_neg (by omega)
def okF : Nat → Nat → Bool := fun _ _ => true
theorem op_open {fal : Nat → Int32} {M : Nat} {F L : Int32} (hM : M ≤ 24) : ∃ g : Nat → Int32, fX3_open fal (nI M) F L = (nI M, F, L, g) ∧ fxA g M okF := by
  obtain ⟨g, h1, h2, _⟩ := op_L (fal := fal) (am := nI M) (af := F) (al := L) (F := F) (L := L) hM (M + 1) 0 1000000000 fal (by omega) (by omega)
  refine ⟨g, ?_, fun m hm i hi => ?_⟩
  · unfold fX3_open
    rw [← nI_0]
    exact h1
  · rw [h2 m (by omega) hm, op_bit m (by omega) i hi]
    simp [okF]
def rg (k m d a : Nat) : Bool := if k = 2 then true else if k = 0 then decide (29 * m + a = d + 1) else decide (d + 1 < 29 * m + a)
theorem sh_1 : ∀ n, n < 32 → ∀ i, i < 32 → bt ((1 : Int32) <<< (nI n &&& 31)) i = decide (i = n) := by
  decide +kernel
theorem sh_m2 : ∀ n, n < 32 → ∀ i, i < 32 → bt ((-2 : Int32) <<< (nI n &&& 31)) i = decide (n < i) := by
  decide +kernel
theorem rt_v {m d : Nat} (hm : m ≤ 24) (hd : d ≤ 999) : ((nI d + (1 : Int32)) - ((29 : Int32) * nI m)).toInt = (d : Int) + 1 - 29 * m := by
  have e : (nI d + (1 : Int32)) - ((29 : Int32) * nI m) = nI (d + 1) - nI (29 * m) := by
    rw [nI_1, show (29 : Int32) = nI 29 from rfl, pk_mul]
  have h1 := nI_toInt (n := d + 1) (by omega)
  have h2 := nI_toInt (n := 29 * m) (by omega)
  have q := gi_subI (z := (nI d + (1 : Int32)) - ((29 : Int32) * nI m)) e (by rw [h1, h2]; omega) (by rw [h1, h2]; omega)
  rw [q, h1, h2]
  omega
theorem rt_right {k m d : Nat} (hk : k ≤ 2) (hm : m ≤ 24) (hd : d ≤ 999) : ∀ i, i < 32 → bt (fX3_rightFor (nI k) (nI m) (nI d)) i = (decide (i ≤ m) && rg k m d i) := by
  intro i hi
  have hall := op_bit m (by omega) i hi
  have hv := rt_v hm hd
  unfold fX3_rightFor
  generalize hw : (nI d + (1 : Int32)) - ((29 : Int32) * nI m) = v at hv ⊢
  have hmI := nI_toInt (n := m) (by omega)
  have hin : ∀ q : Bool, (∀ n : Nat, d + 1 = 29 * m + n → n ≤ m → bt (if nI k = (0 : Int32) then bfX3_rightFor_79 (nI k) (nI m) (nI d) ((1 : Int32) <<< (nI n &&& 31)) else bfX3_rightFor_79 (nI k) (nI m) (nI d) ((((2 : Int32) <<< (nI m &&& 31)) - (1 : Int32)) &&& ((-2 : Int32) <<< (nI n &&& 31)))) i = q) → (¬ (∃ n : Nat, d + 1 = 29 * m + n ∧ n ≤ m) → false = q) → bt (bfX3_rightFor_46 (nI k) (nI m) (nI d) (((2 : Int32) <<< (nI m &&& 31)) - (1 : Int32)) v) i = q := by
    intro q h1 h2
    unfold bfX3_rightFor_46 bfX3_rightFor_58
    by_cases h3 : v < 0
    · rw [if_pos h3, b_0]
      have h4 := Int32.lt_iff_toInt_lt.mp h3
      rw [z32] at h4
      exact h2 (fun ⟨n, e1, e2⟩ => by omega)
    · rw [if_neg h3]
      have h4 : ¬ v.toInt < 0 := fun q => h3 (Int32.lt_iff_toInt_lt.mpr (by rw [z32]; exact q))
      by_cases h5 : v ≤ nI m
      · have h6 := Int32.le_iff_toInt_le.mp h5
        obtain ⟨n, hn, rfl⟩ := nI_of h3
        rw [nI_toInt hn] at hv h6
        rw [if_pos h5]
        exact h1 n (by omega) (by omega)
      · rw [if_neg h5, b_0]
        have h6 : ¬ v.toInt ≤ (nI m).toInt := fun q => h5 (Int32.le_iff_toInt_le.mpr q)
        exact h2 (fun ⟨n, e1, e2⟩ => by omega)
  rcases (show k = 0 ∨ k = 1 ∨ k = 2 by omega) with rfl | rfl | rfl
  · rw [if_neg (by decide), if_neg (by decide)]
    refine hin _ (fun n e1 e2 => ?_) (fun h => ?_)
    · rw [if_pos nI_0]
      unfold bfX3_rightFor_79
      rw [sh_1 n (by omega) i hi]
      unfold rg
      rw [if_neg (by decide), if_pos rfl]
      by_cases e : i = n
      · have e3 : i ≤ m := by omega
        have e4 : 29 * m + i = d + 1 := by omega
        simp [e, e1] ; omega
      · have e4 : ¬ 29 * m + i = d + 1 := by omega
        simp [e, e4]
    · unfold rg
      rw [if_neg (by decide), if_pos rfl]
      by_cases e : i ≤ m
      · have e4 : ¬ 29 * m + i = d + 1 := fun q => h ⟨i, q.symm, e⟩
        simp [e4]
      · simp [e]
  · rw [if_neg (by decide), if_pos (by decide)]
    have hr : rg 1 m d i = decide (d + 1 < 29 * m + i) := by
      unfold rg
      rw [if_neg (by decide), if_neg (by decide)]
    by_cases h0 : (0 : Int32) ≤ v
    · rw [if_pos h0, hr]
      refine hin _ (fun n e1 e2 => ?_) (fun h => ?_)
      · rw [if_neg (by decide)]
        unfold bfX3_rightFor_79
        rw [b_and, hall, sh_m2 n (by omega) i hi]
        congr 1
        exact decide_eq_decide.mpr ⟨fun _ => by omega, fun _ => by omega⟩
      · have h6 := Int32.le_iff_toInt_le.mp h0
        rw [z32] at h6
        by_cases e : i ≤ m
        · have e4 : ¬ d + 1 < 29 * m + i := fun q => h ⟨d + 1 - 29 * m, by omega, by omega⟩
          simp [e4]
        · simp [e]
    · rw [if_neg h0, hr]
      unfold bfX3_rightFor_44
      rw [hall]
      have h6 : ¬ 0 ≤ v.toInt := fun q => h0 (Int32.le_iff_toInt_le.mpr (by rw [z32]; exact q))
      have e4 : d + 1 < 29 * m + i := by omega
      simp [e4]
  · rw [if_pos (by decide)]
    unfold bfX3_rightFor_44 rg
    rw [hall, if_pos rfl]
    simp
def nrw (ok : Nat → Nat → Bool) (k m d : Nat) : Nat → Nat → Bool := fun m' a => ok m' a && (decide (¬ m' = m) || rg k m d a)
theorem nw_narrow {fal : Nat → Int32} {M k m d : Nat} {ok : Nat → Nat → Bool} (hA : fxA fal M ok) (hk : k ≤ 2) (hm : m ≤ 24) (hd : d ≤ 999) : fxA (fX3_narrow fal (nI k) (nI m) (nI d)) M (nrw ok k m d) := by
  intro m' hm' i hi
  unfold fX3_narrow
  rw [cal_b, nI_clamp (by omega)]
  unfold upd nrw
  by_cases e : m' = m
  · rw [if_pos e, b_and, rt_right hk hm hd i hi]
    subst e
    rw [hA m' hm' i hi]
    cases decide (i ≤ m') <;> cases ok m' i <;> simp
  · rw [if_neg e, hA m' hm' i hi]
    simp [e]
theorem nw_at {fal : Nat → Int32} {k m d j : Nat} (hm : m ≤ 24) (hj : ¬ j = m) : fX3_narrow fal (nI k) (nI m) (nI d) j = fal j := by
  unfold fX3_narrow
  rw [cal_b, nI_clamp (by omega)]
  exact if_neg hj
theorem nw_same {fal : Nat → Int32} {M k m d : Nat} {ok : Nat → Nat → Bool} (hA : fxA fal M ok) (hk : k ≤ 2) (hm : m ≤ 24) (hd : d ≤ 999) (hM : M ≤ 24) (hmM : m ≤ M) (hs : fX3_narrow fal (nI k) (nI m) (nI d) m = fal m) : ∀ m' a : Nat, m' ≤ M → a ≤ m' → nrw ok k m d m' a = ok m' a := by
  intro m' a h1 h2
  have q1 := nw_narrow hA hk hm hd m' h1 a (by omega)
  have q2 := hA m' h1 a (by omega)
  have e : fX3_narrow fal (nI k) (nI m) (nI d) m' = fal m' := by
    by_cases e : m' = m
    · rw [e]; exact hs
    · exact nw_at hm e
  rw [e, q2] at q1
  have h3 : a ≤ m' := h2
  simp only [h3, decide_true, Bool.true_and] at q1
  exact q1.symm
theorem wy_cong {F L M : Nat} {ok oj : Nat → Nat → Bool} (h : ∀ m a : Nat, m ≤ M → a ≤ m → ok m a = oj m a) : ∀ (d m a r : Nat), m + d ≤ M → a ≤ m → wy F L ok d m a r = wy F L oj d m a r := by
  intro d
  induction d with
  | zero =>
    intro m a r h1 h2
    rw [wy, wy, h m a (by omega) h2]
  | succ d ih =>
    intro m a r h1 h2
    rw [wy, wy, h m a (by omega) h2, ih (m + 1) a _ (by omega) (by omega), ih (m + 1) (a + 1) _ (by omega) (by omega)]
theorem wy_free {F L : Nat} (hF : 1 ≤ F) (hL : 1 ≤ L) : ∀ (d m a r : Nat), 0 < wy F L okF d m a r := by
  intro d
  induction d with
  | zero =>
    intro m a r
    rw [wy, if_pos (show okF m a = true from rfl)]
    omega
  | succ d ih =>
    intro m a r
    rw [wy, if_pos (show okF m a = true from rfl)]
    by_cases hr : r ≤ 5
    · have e : jn F L r 0 = 6 := by
        unfold jn
        rw [if_neg (by decide), if_pos hr, if_pos hL]
      have q := ih (m + 1) a 6
      rw [e, if_neg (by decide)]
      omega
    · have e : jn F L r 1 = 1 := by
        unfold jn
        rw [if_pos rfl, if_neg hr, if_pos hF]
      have q := ih (m + 1) (a + 1) 1
      rw [e, if_neg (show ¬ (1 : Nat) = 0 by decide)]
      omega
theorem wy_gap {F L M m0 : Nat} {ok : Nat → Nat → Bool} (h : ∀ a : Nat, a ≤ m0 → ok m0 a = false) : ∀ (d m a r : Nat), m ≤ m0 → m0 ≤ m + d → a ≤ m → wy F L ok d m a r = 0 := by
  intro d
  induction d with
  | zero =>
    intro m a r h1 h2 h3
    have e : m = m0 := by omega
    subst e
    exact wy_0 (by rw [h a h3]; decide)
  | succ d ih =>
    intro m a r h1 h2 h3
    by_cases e : m = m0
    · subst e
      exact wy_0 (by rw [h a h3]; decide)
    · rw [wy, ih (m + 1) a _ (by omega) (by omega) (by omega), ih (m + 1) (a + 1) _ (by omega) (by omega) (by omega)]
      simp
def ins (lt : Nat → Nat → Bool) (r : Nat) : List Nat → List Nat
  | [] => [r]
  | q :: l => if lt r q = true then q :: ins lt r l else r :: q :: l
theorem ins_len (lt : Nat → Nat → Bool) (r : Nat) : ∀ l : List Nat, (ins lt r l).length = l.length + 1 := by
  intro l
  induction l with
  | nil => rfl
  | cons q l ih =>
    rw [ins]
    split
    · rw [List.length_cons, ih, List.length_cons]
    · rw [List.length_cons]
theorem ins_mem {lt : Nat → Nat → Bool} {r x : Nat} : ∀ {l : List Nat}, x ∈ ins lt r l → x = r ∨ x ∈ l := by
  intro l
  induction l with
  | nil =>
    intro h
    rw [ins, List.mem_singleton] at h
    exact Or.inl h
  | cons q l ih =>
    intro h
    rw [ins] at h
    split at h
    · rw [List.mem_cons] at h
      rcases h with h | h
      · exact Or.inr (List.mem_cons.mpr (Or.inl h))
      · rcases ih h with h | h
        · exact Or.inl h
        · exact Or.inr (List.mem_cons.mpr (Or.inr h))
    · rw [List.mem_cons] at h
      exact h
def lin (lt : Nat → Nat → Bool) (K : Nat → Bool) : Nat → List Nat
  | 0 => []
  | n + 1 => if K n = true then ins lt n (lin lt K n) else lin lt K n
theorem lin_mem {lt : Nat → Nat → Bool} {K : Nat → Bool} {x : Nat} : ∀ {n : Nat}, x ∈ lin lt K n → x < n ∧ K x = true := by
  intro n
  induction n with
  | zero =>
    intro h
    rw [lin] at h
    exact absurd h (List.not_mem_nil)
  | succ n ih =>
    intro h
    rw [lin] at h
    split at h
    · rename_i hk
      rcases ins_mem h with h | h
      · rw [h]
        exact ⟨by omega, hk⟩
      · exact ⟨by have := (ih h).1; omega, (ih h).2⟩
    · exact ⟨by have := (ih h).1; omega, (ih h).2⟩
theorem lin_len {lt : Nat → Nat → Bool} {K : Nat → Bool} : ∀ n : Nat, (lin lt K n).length ≤ n := by
  intro n
  induction n with
  | zero => rw [lin]; exact Nat.le_refl 0
  | succ n ih =>
    rw [lin]
    split
    · rw [ins_len]; omega
    · omega
theorem lin_cong {lt : Nat → Nat → Bool} {K K' : Nat → Bool} : ∀ n : Nat, (∀ j, j < n → K j = K' j) → lin lt K n = lin lt K' n := by
  intro n
  induction n with
  | zero => intro _; rfl
  | succ n ih =>
    intro h
    rw [lin, lin, h n (by omega), ih (fun j hj => h j (by omega))]
def Rg (f : Nat → Int32) : List Nat → Prop
  | [] => True
  | x :: l => f l.length = nI x ∧ Rg f l
def Tg (tn : Nat → Nat) (f : Nat → Int64) : List Nat → Prop
  | [] => True
  | x :: l => f l.length = lN (tn x) ∧ Tg tn f l
theorem Rg_cong {f g : Nat → Int32} : ∀ {l : List Nat}, (∀ j, j < l.length → g j = f j) → Rg f l → Rg g l := by
  intro l
  induction l with
  | nil => intro _ h; exact h
  | cons q l ih =>
    intro h1 h2
    rw [List.length_cons] at h1
    exact ⟨by rw [h1 _ (by omega)]; exact h2.1, ih (fun j hj => h1 j (by omega)) h2.2⟩
theorem Tg_cong {tn : Nat → Nat} {f g : Nat → Int64} : ∀ {l : List Nat}, (∀ j, j < l.length → g j = f j) → Tg tn f l → Tg tn g l := by
  intro l
  induction l with
  | nil => intro _ h; exact h
  | cons q l ih =>
    intro h1 h2
    rw [List.length_cons] at h1
    exact ⟨by rw [h1 _ (by omega)]; exact h2.1, ih (fun j hj => h1 j (by omega)) h2.2⟩
theorem vpL_at (f : Nat → Int64) (i : Nat) (v : Int64) (j : Nat) : vp_updL f i v j = if j = i then v else f j := rfl
theorem ci_s (a : Int32) (f : Nat → Int32) (g : Nat → Int64) (p : Int32) (t : Int64) (z : Nat) (v : Int32) (w : Nat → Int32) (u : Nat → Int64) : lfX1_insert a f g p t (z + 1) v w u = dfX1_insert_6 a f g p t (lfX1_insert a f g p t z) v w u := rfl
theorem ci_L {a : Int32} {f : Nat → Int32} {g : Nat → Int64} {lt : Nat → Nat → Bool} {tn : Nat → Nat} {r : Nat} : ∀ (l : List Nat) (z : Nat) (w : Nat → Int32) (u : Nat → Int64), l.length ≤ 24 → (∀ q, q ∈ l → (lN (tn q) ≤ lN (tn r) ↔ ¬ lt r q = true)) → Rg w l → Tg tn u l → l.length < z → ∃ (w' : Nat → Int32) (u' : Nat → Int64), lfX1_insert a f g (nI r) (lN (tn r)) z (nI l.length) w u = (a + (1 : Int32), w', u') ∧ Rg w' (ins lt r l) ∧ Tg tn u' (ins lt r l) ∧ ∀ j, l.length < j → w' j = w j ∧ u' j = u j := by
  intro l
  induction l with
  | nil =>
    intro z w u h24 hq hw hu hz
    obtain ⟨z, rfl⟩ : ∃ y, z = y + 1 := ⟨z - 1, by omega⟩
    refine ⟨upd w 0 (nI r), vp_updL u 0 (lN (tn r)), ?_, ⟨if_pos rfl, trivial⟩, ⟨if_pos rfl, trivial⟩, fun j hj => ⟨if_neg (by rw [List.length_nil] at hj; omega), if_neg (by rw [List.length_nil] at hj; omega)⟩⟩
    rw [ci_s]
    unfold dfX1_insert_6 bfX1_insert_63
    rw [List.length_nil, if_pos (by rw [nI_0]; exact Int32.le_refl 0), nI_clamp (by omega)]
  | cons q l ih =>
    intro z w u h24 hq hw hu hz
    obtain ⟨z, rfl⟩ : ∃ y, z = y + 1 := ⟨z - 1, by omega⟩
    rw [List.length_cons] at h24 hz ⊢
    have hqq := hq q (List.mem_cons.mpr (Or.inl rfl))
    rw [ci_s]
    unfold dfX1_insert_6 bfX1_insert_63
    rw [if_neg (nI_nle (by omega) (by omega)), nI_pred, nI_clamp (show l.length < 2 ^ 31 by omega), nI_clamp (show l.length + 1 < 2 ^ 31 by omega), hu.1, hw.1]
    by_cases hlt : lt r q = true
    · rw [if_neg (fun h => hqq.1 ((lg_cmp_le _ _).1 h) hlt)]
      have e : nI (l.length + 1) + (-1 : Int32) = nI l.length := by
        rw [show (-1 : Int32) = - (1 : Int32) from rfl, ← Int32.sub_eq_add_neg, nI_pred]
      rw [e]
      obtain ⟨w', u', e1, e2, e3, e4⟩ := ih z (upd w (l.length + 1) (nI q)) (vp_updL u (l.length + 1) (lN (tn q))) (by omega) (fun x hx => hq x (List.mem_cons.mpr (Or.inr hx))) (Rg_cong (fun j hj => if_neg (by omega)) hw.2) (Tg_cong (fun j hj => if_neg (by omega)) hu.2) (by omega)
      refine ⟨w', u', e1, ?_, ?_, fun j hj => ?_⟩
      · rw [ins, if_pos hlt]
        refine ⟨?_, e2⟩
        rw [ins_len, (e4 (l.length + 1) (by omega)).1]
        exact if_pos rfl
      · rw [ins, if_pos hlt]
        refine ⟨?_, e3⟩
        rw [ins_len, (e4 (l.length + 1) (by omega)).2]
        exact if_pos rfl
      · obtain ⟨q1, q2⟩ := e4 j (by omega)
        exact ⟨by rw [q1]; exact if_neg (by omega), by rw [q2]; exact if_neg (by omega)⟩
    · rw [if_pos ((lg_cmp_le _ _).2 (hqq.2 hlt))]
      refine ⟨_, _, rfl, ?_, ?_, fun j hj => ⟨if_neg (by omega), if_neg (by omega)⟩⟩
      · rw [ins, if_neg hlt]
        refine ⟨if_pos rfl, ?_⟩
        exact Rg_cong (f := w) (fun j hj => if_neg (by rw [List.length_cons] at hj; omega)) hw
      · rw [ins, if_neg hlt]
        refine ⟨if_pos rfl, ?_⟩
        exact Tg_cong (f := u) (fun j hj => if_neg (by rw [List.length_cons] at hj; omega)) hu
def tnN (tr nm pl mo dy kd : Nat → Nat) (r : Nat) : Nat := (((((9 - tr (pl r)) * 387420489 + nm (pl r)) * 24 + mo r) * 1000 + dy r) * 3 + kd r) * 24 + r
def ltr (tr nm pl mo dy kd : Nat → Nat) (r q : Nat) : Bool := decide (tnN tr nm pl mo dy kd r < tnN tr nm pl mo dy kd q)
def RW (M n m : Nat) (tr nm pl kd mo dy : Nat → Nat) : Prop := (∀ p, p < m → tr p ≤ 9 ∧ nm p < 387420489) ∧ (∀ p q, p < m → q < m → nm p = nm q → p = q) ∧ ∀ j, j < n → pl j < m ∧ kd j ≤ 2 ∧ 1 ≤ mo j ∧ mo j < M ∧ dy j ≤ 999
theorem tn_lt {M n m : Nat} {tr nm pl kd mo dy : Nat → Nat} (h : RW M n m tr nm pl kd mo dy) (hM : M ≤ 24) (hn : n ≤ 24) {r : Nat} (hr : r < n) : tnN tr nm pl mo dy kd r < 10000000000000000 := by
  obtain ⟨h1, _, h3⟩ := h
  obtain ⟨a1, a2, a3, a4, a5⟩ := h3 r hr
  obtain ⟨b1, b2⟩ := h1 _ a1
  unfold tnN
  omega
theorem ct_turn {M n m : Nat} {tr nm pl kd mo dy : Nat → Nat} {pn pt rp rk rm rd : Nat → Int32} (h : RW M n m tr nm pl kd mo dy) (hm6 : m ≤ 6) (hM : M ≤ 24) (hn : n ≤ 24) (hP : ∀ p, p < m → pt p = nI (tr p) ∧ pn p = nI (nm p)) (hR : ∀ j, j < n → rp j = nI (pl j) ∧ rk j = nI (kd j) ∧ rm j = nI (mo j) ∧ rd j = nI (dy j)) {r : Nat} (hr : r < n) : fX1_turnOf pn pt rp rk rm rd (nI r) = lN (tnN tr nm pl mo dy kd r) := by
  obtain ⟨h1, _, h3⟩ := h
  obtain ⟨a1, a2, a3, a4, a5⟩ := h3 r hr
  obtain ⟨b1, b2⟩ := h1 _ a1
  obtain ⟨c1, c2, c3, c4⟩ := hR r hr
  obtain ⟨d1, d2⟩ := hP _ a1
  unfold fX1_turnOf
  rw [nI_clamp (by omega), c1, nI_clamp (by omega), d1, d2, c2, c3, c4, show (9 : Int32) = nI 9 from rfl, pk_sub b1, nI_l (by omega), nI_l (by omega), nI_l (by omega), nI_l (by omega), nI_l (by omega), nI_l (by omega), show (387420489 : Int64) = lN 387420489 from rfl, show (24 : Int64) = lN 24 from rfl, show (1000 : Int64) = lN 1000 from rfl, show (3 : Int64) = lN 3 from rfl]
  simp only [lN_mul, lN_add]
  rfl
theorem lN_le63 {a b : Nat} (ha : a < 2 ^ 62) (hb : b < 2 ^ 62) : lN a ≤ lN b ↔ a ≤ b := by
  have h1 : (lN a).toInt = (a : Int) := lg_ofNat_toInt (by omega)
  have h2 : (lN b).toInt = (b : Int) := lg_ofNat_toInt (by omega)
  rw [Int64.le_iff_toInt_le, h1, h2]
  omega
theorem tn_cmp {M n m : Nat} {tr nm pl kd mo dy : Nat → Nat} (h : RW M n m tr nm pl kd mo dy) (hM : M ≤ 24) (hn : n ≤ 24) {r q : Nat} (hr : r < n) (hq : q < n) : lN (tnN tr nm pl mo dy kd q) ≤ lN (tnN tr nm pl mo dy kd r) ↔ ¬ ltr tr nm pl mo dy kd r q = true := by
  have h1 := tn_lt h hM hn hr
  have h2 := tn_lt h hM hn hq
  rw [lN_le63 (by omega) (by omega)]
  unfold ltr
  rw [decide_eq_true_eq]
  omega
theorem ia_eq {M n m : Nat} {tr nm pl kd mo dy : Nat → Nat} {mi pn rp rm rd rk ft fl : Nat → Int32} (h : RW M n m tr nm pl kd mo dy) (hm6 : m ≤ 6) (hM : M ≤ 24) (hn : n ≤ 24) (hN : NM m pn fl) (hP : ∀ p, p < m → fX12_trustOf mi ft (nI p) = nI (tr p) ∧ pn p = nI (nm p)) (hR : ∀ j, j < n → rp j = nI (pl j) ∧ rk j = nI (kd j) ∧ rm j = nI (mo j) ∧ rd j = nI (dy j)) {r q : Nat} (hr : r < n) (hq : q < n) : fX12_isAhead mi rp rm rd rk ft fl (nI r) (nI q) = if ltr tr nm pl mo dy kd r q = true then 1 else 0 := by
  obtain ⟨h1, h2, h3⟩ := h
  obtain ⟨a1, a2, a3, a4, a5⟩ := h3 r hr
  obtain ⟨b1, b2, b3, b4, b5⟩ := h3 q hq
  obtain ⟨c1, c2, c3, c4⟩ := hR r hr
  obtain ⟨d1, d2, d3, d4⟩ := hR q hq
  obtain ⟨e1, e2⟩ := hP _ a1
  obtain ⟨f1, f2⟩ := hP _ b1
  obtain ⟨g1, g2⟩ := h1 _ a1
  obtain ⟨i1, i2⟩ := h1 _ b1
  have hna := na_eq hm6 hN a1 b1
  rw [e2, f2, nI_toInt (by omega), nI_toInt (by omega)] at hna
  unfold fX12_isAhead bfX12_isAhead_48 bfX12_isAhead_98 bfX12_isAhead_134 bfX12_isAhead_183
  simp only [cal_b]
  rw [nI_clamp (show r < 2 ^ 31 by omega), nI_clamp (show q < 2 ^ 31 by omega), c1, c2, c3, c4, d1, d2, d3, d4, e1, f1, hna]
  have key : ∀ (P : Prop) (_ : Decidable P) (x : Int32), (P → x = 1) → (¬ P → x = 0) → (P ↔ ltr tr nm pl mo dy kd r q = true) → x = if ltr tr nm pl mo dy kd r q = true then 1 else 0 := by
    intro P _ x q1 q2 q3
    by_cases hp : P
    · rw [if_pos (q3.1 hp), q1 hp]
    · rw [if_neg (fun q => hp (q3.2 q)), q2 hp]
  have hlt : ltr tr nm pl mo dy kd r q = true ↔ tnN tr nm pl mo dy kd r < tnN tr nm pl mo dy kd q := by
    unfold ltr
    rw [decide_eq_true_eq]
  unfold tnN at hlt
  by_cases t0 : tr (pl r) = tr (pl q)
  · rw [if_pos (by rw [t0])]
    by_cases t1 : pl r = pl q
    · rw [if_pos (by rw [t1])]
      rw [t1] at hlt
      by_cases t2 : mo r = mo q
      · rw [if_pos (by rw [t2])]
        by_cases t3 : dy r = dy q
        · rw [if_pos (by rw [t3])]
          by_cases t4 : kd r = kd q
          · rw [if_pos (by rw [t4])]
            refine key (r < q) inferInstance _ (fun h => if_neg (fun w => ?_)) (fun h => if_pos ?_) (by rw [hlt]; omega)
            · have := (nI_leI (by omega) (by omega)).1 w
              omega
            · exact nI_le (by omega) (by omega)
          · rw [if_neg (fun w => t4 ((nI_eq (by omega) (by omega)).1 w))]
            refine key (kd r < kd q) inferInstance _ (fun h => if_neg (fun w => ?_)) (fun h => if_pos ?_) (by rw [hlt]; omega)
            · have := (nI_leI (by omega) (by omega)).1 w
              omega
            · exact nI_le (by omega) (by omega)
        · rw [if_neg (fun w => t3 ((nI_eq (by omega) (by omega)).1 w))]
          refine key (dy r < dy q) inferInstance _ (fun h => if_neg (fun w => ?_)) (fun h => if_pos ?_) (by rw [hlt]; omega)
          · have := (nI_leI (by omega) (by omega)).1 w
            omega
          · exact nI_le (by omega) (by omega)
      · rw [if_neg (fun w => t2 ((nI_eq (by omega) (by omega)).1 w))]
        refine key (mo r < mo q) inferInstance _ (fun h => if_neg (fun w => ?_)) (fun h => if_pos ?_) (by rw [hlt]; omega)
        · have := (nI_leI (by omega) (by omega)).1 w
          omega
        · exact nI_le (by omega) (by omega)
    · rw [if_neg (fun w => t1 ((nI_eq (by omega) (by omega)).1 w))]
      have t5 : ¬ nm (pl r) = nm (pl q) := fun w => t1 (h2 _ _ a1 b1 w)
      rw [t0] at hlt
      refine key (nm (pl r) < nm (pl q)) inferInstance _ (fun h => if_pos (by omega)) (fun h => if_neg (by omega)) (by rw [hlt]; omega)
  · rw [if_neg (fun w => t0 ((nI_eq (by omega) (by omega)).1 w))]
    refine key (tr (pl q) < tr (pl r)) inferInstance _ (fun h => if_neg (fun w => ?_)) (fun h => if_pos ?_) (by rw [hlt]; omega)
    · have := (nI_leI (by omega) (by omega)).1 w
      omega
    · exact nI_le (by omega) (by omega)
theorem cu_s (fve fqu : Nat → Int32) (ftu : Nat → Int64) (n : Int32) (pn pt rp rk rm rd rn rs : Nat → Int32) (t : Int32) (z : Nat) (v w : Int32) (a b : Nat → Int32) (c : Nat → Int64) : lfX1_lineUp fve fqu ftu n pn pt rp rk rm rd rn rs t (z + 1) v w a b c = dfX1_lineUp_7 fve fqu ftu n pn pt rp rk rm rd rn rs t (lfX1_lineUp fve fqu ftu n pn pt rp rk rm rd rn rs t z) v w a b c := rfl
theorem cu_L {fve fqu : Nat → Int32} {ftu : Nat → Int64} {n : Nat} {pn pt rp rk rm rd rn rs : Nat → Int32} {t : Int32} {lt : Nat → Nat → Bool} {K : Nat → Bool} {tn : Nat → Nat} (hn : n ≤ 24) (hK : ∀ j, j < n → (K j = true ↔ ¬ fX7_isKnownBy (rn j) (rs j) t = 0)) (hT : ∀ j, j < n → fX1_turnOf pn pt rp rk rm rd (nI j) = lN (tn j)) (hC : ∀ r q, r < n → q < n → (lN (tn q) ≤ lN (tn r) ↔ ¬ lt r q = true)) : ∀ (k j z : Nat) (ve qu : Nat → Int32) (tu : Nat → Int64), j + k = n → k < z → (∀ i, i < j → ve i = 3) → Rg qu (lin lt K j) → Tg tn tu (lin lt K j) → ∃ (ve' qu' : Nat → Int32) (tu' : Nat → Int64), lfX1_lineUp fve fqu ftu (nI n) pn pt rp rk rm rd rn rs t z (nI j) (nI (lin lt K j).length) ve qu tu = (nI (lin lt K n).length, ve', qu', tu') ∧ (∀ i, i < n → ve' i = 3) ∧ Rg qu' (lin lt K n) ∧ Tg tn tu' (lin lt K n) := by
  intro k
  induction k with
  | zero =>
    intro j z ve qu tu hj hz hve hqu htu
    obtain ⟨z, rfl⟩ : ∃ y, z = y + 1 := ⟨z - 1, by omega⟩
    have e : j = n := by omega
    subst e
    refine ⟨ve, qu, tu, ?_, hve, hqu, htu⟩
    rw [cu_s]
    unfold dfX1_lineUp_7
    rw [if_pos (Int32.le_refl _)]
  | succ k ih =>
    intro j z ve qu tu hj hz hve hqu htu
    obtain ⟨z, rfl⟩ : ∃ y, z = y + 1 := ⟨z - 1, by omega⟩
    have hlen := lin_len (lt := lt) (K := K) j
    have hve' : ∀ i, i < j + 1 → upd ve j (3 : Int32) i = 3 := by
      intro i hi
      by_cases e : i = j
      · exact if_pos e
      · rw [show upd ve j (3 : Int32) i = ve i from if_neg e]
        exact hve i (by omega)
    rw [cu_s]
    unfold dfX1_lineUp_7 bfX1_lineUp_45
    rw [if_neg (fun w => by have := (nI_leI (by omega) (by omega)).1 w; omega), nI_clamp (show j < 2 ^ 31 by omega), cal_b]
    by_cases hk : K j = true
    · rw [if_neg ((hK j (by omega)).1 hk), cal_b, cal_b, hT j (by omega)]
      obtain ⟨w', u', e1, e2, e3, _⟩ := ci_L (a := nI (lin lt K j).length) (f := qu) (g := tu) (lt := lt) (tn := tn) (r := j) (lin lt K j) 1000000000 qu tu (by omega) (fun q hq => hC j q (by omega) (by have := (lin_mem hq).1; omega)) hqu htu (by omega)
      have e4 : fX1_insert (nI (lin lt K j).length) qu tu (nI j) (lN (tn j)) = (nI (lin lt K j).length + (1 : Int32), w', u') := by
        unfold fX1_insert
        exact e1
      rw [e4, nI_1]
      have e5 : lin lt K (j + 1) = ins lt j (lin lt K j) := by rw [lin, if_pos hk]
      have e6 : nI (lin lt K j).length + (1 : Int32) = nI (lin lt K (j + 1)).length := by rw [e5, ins_len, nI_1]
      show ∃ ve' qu' tu', lfX1_lineUp fve fqu ftu (nI n) pn pt rp rk rm rd rn rs t z (nI (j + 1)) (nI (lin lt K j).length + (1 : Int32)) _ w' u' = _ ∧ _
      rw [e6]
      exact ih (j + 1) z _ w' u' (by omega) (by omega) hve' (by rw [e5]; exact e2) (by rw [e5]; exact e3)
    · have e0 : fX7_isKnownBy (rn j) (rs j) t = 0 := Decidable.byContradiction (fun w => hk ((hK j (by omega)).2 w))
      have e5 : lin lt K (j + 1) = lin lt K j := by rw [lin, if_neg hk]
      rw [if_pos e0, nI_1]
      rw [← e5]
      exact ih (j + 1) z _ qu tu (by omega) (by omega) hve' (by rw [e5]; exact hqu) (by rw [e5]; exact htu)
theorem cu_eq {fve fqu : Nat → Int32} {ftu : Nat → Int64} {M n m : Nat} {tr nm pl kd mo dy : Nat → Nat} {pn pt rp rk rm rd rn rs : Nat → Int32} {t : Int32} {K : Nat → Bool} (h : RW M n m tr nm pl kd mo dy) (hm6 : m ≤ 6) (hM : M ≤ 24) (hn : n ≤ 24) (hP : ∀ p, p < m → pt p = nI (tr p) ∧ pn p = nI (nm p)) (hR : ∀ j, j < n → rp j = nI (pl j) ∧ rk j = nI (kd j) ∧ rm j = nI (mo j) ∧ rd j = nI (dy j)) (hK : ∀ j, j < n → (K j = true ↔ ¬ fX7_isKnownBy (rn j) (rs j) t = 0)) : ∃ (ve' qu' : Nat → Int32) (tu' : Nat → Int64), fX1_lineUp fve fqu ftu (nI n) pn pt rp rk rm rd rn rs t = (nI (lin (ltr tr nm pl mo dy kd) K n).length, ve', qu', tu') ∧ (∀ i, i < n → ve' i = 3) ∧ Rg qu' (lin (ltr tr nm pl mo dy kd) K n) := by
  obtain ⟨ve', qu', tu', e1, e2, e3, _⟩ := cu_L (fve := fve) (fqu := fqu) (ftu := ftu) (lt := ltr tr nm pl mo dy kd) (tn := tnN tr nm pl mo dy kd) hn hK (fun j hj => ct_turn h hm6 hM hn hP hR hj) (fun r q hr hq => tn_cmp h hM hn hr hq) n 0 1000000000 fve fqu ftu (by omega) (by omega) (fun i hi => absurd hi (by omega)) trivial trivial
  refine ⟨ve', qu', tu', ?_, e2, e3⟩
  unfold fX1_lineUp
  rw [lin, List.length_nil, nI_0] at e1
  exact e1
theorem lr_s1 (mi fv fr fs fn fp fm fd fk ft fl : Nat → Int32) (t : Int32) (z : Nat) (v w : Int32) (a b : Nat → Int32) : (lfX12_laysRow mi fv fr fs fn fp fm fd fk ft fl t (z + 1)).1 v w a b = dfX12_laysRow_7 mi fv fr fs fn fp fm fd fk ft fl t (lfX12_laysRow mi fv fr fs fn fp fm fd fk ft fl t z) v w a b := rfl
theorem lr_s2 (mi fv fr fs fn fp fm fd fk ft fl : Nat → Int32) (t : Int32) (z : Nat) (v x w : Int32) (a b : Nat → Int32) : (lfX12_laysRow mi fv fr fs fn fp fm fd fk ft fl t (z + 1)).2 v x w a b = dfX12_laysRow_68 mi fv fr fs fn fp fm fd fk ft fl t (lfX12_laysRow mi fv fr fs fn fp fm fd fk ft fl t z) v x w a b := rfl
theorem lr_in {mi fv fr fs fn fp fm fd fk ft fl : Nat → Int32} {t : Int32} {lt : Nat → Nat → Bool} {r : Nat} (c : Int32) (a : Nat → Int32) : ∀ (l : List Nat) (z : Nat) (w : Nat → Int32), l.length ≤ 24 → (∀ q, q ∈ l → fX12_isAhead (upd mi 41 c) fp fm fd fk ft fl (nI r) (nI q) = if lt r q = true then 1 else 0) → Rg w l → l.length < z → ∃ (z' : Nat) (w' : Nat → Int32), z ≤ z' + l.length + 1 ∧ (lfX12_laysRow mi fv fr fs fn fp fm fd fk ft fl t z).2 (nI r) (nI l.length) c a w = (lfX12_laysRow mi fv fr fs fn fp fm fd fk ft fl t z').1 (nI r + (1 : Int32)) (c + (1 : Int32)) a w' ∧ Rg w' (ins lt r l) ∧ ∀ j, l.length < j → w' j = w j := by
  intro l
  induction l with
  | nil =>
    intro z w h24 hq hw hz
    obtain ⟨z, rfl⟩ : ∃ y, z = y + 1 := ⟨z - 1, by omega⟩
    refine ⟨z, upd w 0 (nI r), by omega, ?_, ⟨if_pos rfl, trivial⟩, fun j hj => if_neg (by rw [List.length_nil] at hj; omega)⟩
    rw [lr_s2]
    unfold dfX12_laysRow_68 bfX12_laysRow_108 bfX12_laysRow_125
    rw [List.length_nil, if_pos (by rw [nI_0]; exact Int32.le_refl 0), nI_clamp (by omega)]
  | cons q l ih =>
    intro z w h24 hq hw hz
    obtain ⟨z, rfl⟩ : ∃ y, z = y + 1 := ⟨z - 1, by omega⟩
    rw [List.length_cons] at h24 hz ⊢
    have hqq := hq q (List.mem_cons.mpr (Or.inl rfl))
    rw [lr_s2]
    unfold dfX12_laysRow_68 bfX12_laysRow_108 bfX12_laysRow_125
    rw [if_neg (nI_nle (by omega) (by omega)), nI_pred, nI_clamp (show l.length < 2 ^ 31 by omega), nI_clamp (show l.length + 1 < 2 ^ 31 by omega), hw.1, cal_b, hqq]
    by_cases hlt : lt r q = true
    · rw [if_pos hlt, if_neg (by decide)]
      have e : nI (l.length + 1) + (-1 : Int32) = nI l.length := by
        rw [show (-1 : Int32) = - (1 : Int32) from rfl, ← Int32.sub_eq_add_neg, nI_pred]
      rw [e]
      obtain ⟨z', w', e0, e1, e2, e4⟩ := ih z (upd w (l.length + 1) (nI q)) (by omega) (fun x hx => hq x (List.mem_cons.mpr (Or.inr hx))) (Rg_cong (fun j hj => if_neg (by omega)) hw.2) (by omega)
      refine ⟨z', w', by omega, e1, ?_, fun j hj => ?_⟩
      · rw [ins, if_pos hlt]
        refine ⟨?_, e2⟩
        rw [ins_len, e4 (l.length + 1) (by omega)]
        exact if_pos rfl
      · rw [e4 j (by omega)]
        exact if_neg (by omega)
    · rw [if_neg hlt, if_pos rfl]
      refine ⟨z, _, by omega, rfl, ?_, fun j hj => if_neg (by omega)⟩
      rw [ins, if_neg hlt]
      refine ⟨if_pos rfl, ?_⟩
      exact Rg_cong (f := w) (fun j hj => if_neg (by rw [List.length_cons] at hj; omega)) hw
noncomputable def kR (mi fs fn fp : Nat → Int32) (t : Int32) (j : Nat) : Bool := decide (¬ fX12_isKnown fs fn (nI j) t = 0 ∧ ¬ nI j = mi 43 ∧ (mi 42 = -1 ∨ fp j = mi 42))
theorem lr_L {mi fv fr fs fn fp fm fd fk ft fl : Nat → Int32} {t : Int32} {lt : Nat → Nat → Bool} {n : Nat} (hn : n ≤ 24) (h10 : mi 10 = nI n) (hA : ∀ c r q, r < n → q < n → fX12_isAhead (upd mi 41 c) fp fm fd fk ft fl (nI r) (nI q) = if lt r q = true then 1 else 0) : ∀ (k j z : Nat) (a w : Nat → Int32), j + k = n → 30 * k < z → (∀ i, i < j → a i = 3) → Rg w (lin lt (kR mi fs fn fp t) j) → ∃ (a' w' : Nat → Int32), (lfX12_laysRow mi fv fr fs fn fp fm fd fk ft fl t z).1 (nI j) (nI (lin lt (kR mi fs fn fp t) j).length) a w = (nI (lin lt (kR mi fs fn fp t) n).length, a', w') ∧ (∀ i, i < n → a' i = 3) ∧ Rg w' (lin lt (kR mi fs fn fp t) n) := by
  intro k
  induction k with
  | zero =>
    intro j z a w hj hz ha hw
    obtain ⟨z, rfl⟩ : ∃ y, z = y + 1 := ⟨z - 1, by omega⟩
    have e : j = n := by omega
    subst e
    refine ⟨a, w, ?_, ha, hw⟩
    rw [lr_s1]
    unfold dfX12_laysRow_7
    rw [if_pos (by rw [h10]; exact Int32.le_refl _)]
  | succ k ih =>
    intro j z a w hj hz ha hw
    obtain ⟨z, rfl⟩ : ∃ y, z = y + 1 := ⟨z - 1, by omega⟩
    have hlen := lin_len (lt := lt) (K := kR mi fs fn fp t) j
    have ha' : ∀ i, i < j + 1 → upd a j (3 : Int32) i = 3 := by
      intro i hi
      by_cases e : i = j
      · exact if_pos e
      · rw [show upd a j (3 : Int32) i = a i from if_neg e]
        exact ha i (by omega)
    rw [lr_s1]
    unfold dfX12_laysRow_7 bfX12_laysRow_125 bfX12_laysRow_63
    rw [if_neg (fun q => by rw [h10] at q; have := (nI_leI (by omega) (by omega)).1 q; omega), nI_clamp (show j < 2 ^ 31 by omega), cal_b]
    have hno : kR mi fs fn fp t j = false → ∃ (a' w' : Nat → Int32), (lfX12_laysRow mi fv fr fs fn fp fm fd fk ft fl t z).1 (nI j + (1 : Int32)) (nI (lin lt (kR mi fs fn fp t) j).length) (upd a j (3 : Int32)) w = (nI (lin lt (kR mi fs fn fp t) n).length, a', w') ∧ (∀ i, i < n → a' i = 3) ∧ Rg w' (lin lt (kR mi fs fn fp t) n) := by
      intro hk
      have e5 : lin lt (kR mi fs fn fp t) (j + 1) = lin lt (kR mi fs fn fp t) j := by rw [lin, if_neg (by rw [hk]; decide)]
      rw [nI_1, ← e5]
      exact ih (j + 1) z _ w (by omega) (by omega) ha' (by rw [e5]; exact hw)
    have hyes : kR mi fs fn fp t j = true → ∃ (a' w' : Nat → Int32), (lfX12_laysRow mi fv fr fs fn fp fm fd fk ft fl t z).2 (nI j) (nI (lin lt (kR mi fs fn fp t) j).length) (nI (lin lt (kR mi fs fn fp t) j).length) (upd a j (3 : Int32)) w = (nI (lin lt (kR mi fs fn fp t) n).length, a', w') ∧ (∀ i, i < n → a' i = 3) ∧ Rg w' (lin lt (kR mi fs fn fp t) n) := by
      intro hk
      have e5 : lin lt (kR mi fs fn fp t) (j + 1) = ins lt j (lin lt (kR mi fs fn fp t) j) := by rw [lin, if_pos hk]
      obtain ⟨z', w', e0, e1, e2, _⟩ := lr_in (mi := mi) (fv := fv) (fr := fr) (fs := fs) (fn := fn) (fp := fp) (fm := fm) (fd := fd) (fk := fk) (ft := ft) (fl := fl) (t := t) (lt := lt) (r := j) (nI (lin lt (kR mi fs fn fp t) j).length) (upd a j (3 : Int32)) (lin lt (kR mi fs fn fp t) j) z w (by omega) (fun q hq => hA _ j q (by omega) (by have := (lin_mem hq).1; omega)) hw (by omega)
      rw [e1, nI_1, nI_1]
      have e6 : (lin lt (kR mi fs fn fp t) j).length + 1 = (lin lt (kR mi fs fn fp t) (j + 1)).length := by rw [e5, ins_len]
      rw [e6]
      exact ih (j + 1) z' _ w' (by omega) (by omega) ha' (by rw [e5]; exact e2)
    by_cases h1 : fX12_isKnown fs fn (nI j) t = 0
    · rw [if_pos h1]
      exact hno (decide_eq_false (fun q => q.1 h1))
    · rw [if_neg h1]
      by_cases h2 : nI j = mi 43
      · rw [if_pos h2]
        exact hno (decide_eq_false (fun q => q.2.1 h2))
      · rw [if_neg h2]
        by_cases h3 : mi 42 = -1
        · rw [if_pos h3]
          exact hyes (decide_eq_true ⟨h1, h2, Or.inl h3⟩)
        · rw [if_neg h3]
          by_cases h4 : fp j = mi 42
          · rw [if_pos h4]
            exact hyes (decide_eq_true ⟨h1, h2, Or.inr h4⟩)
          · rw [if_neg h4]
            exact hno (decide_eq_false (fun q => q.2.2.elim h3 h4))
theorem lr_eq {mi fv fr fs fn fp fm fd fk ft fl : Nat → Int32} {t : Int32} {lt : Nat → Nat → Bool} {n : Nat} (hn : n ≤ 24) (h10 : mi 10 = nI n) (hA : ∀ c r q, r < n → q < n → fX12_isAhead (upd mi 41 c) fp fm fd fk ft fl (nI r) (nI q) = if lt r q = true then 1 else 0) : ∃ (a' w' : Nat → Int32), fX12_laysRow mi fv fr fs fn fp fm fd fk ft fl t = (nI (lin lt (kR mi fs fn fp t) n).length, a', w') ∧ (∀ i, i < n → a' i = 3) ∧ Rg w' (lin lt (kR mi fs fn fp t) n) := by
  obtain ⟨a', w', e1, e2, e3⟩ := lr_L (fv := fv) (fr := fr) hn h10 hA n 0 1000000000 fv fr (by omega) (by omega) (fun i hi => absurd hi (by omega)) trivial
  refine ⟨a', w', ?_, e2, e3⟩
  unfold fX12_laysRow
  rw [lin, List.length_nil, nI_0] at e1
  exact e1
def ofs (F L M : Nat) (ok : Nat → Nat → Bool) : Nat → Nat × Nat
  | 0 => (0, 0)
  | m + 1 => if ¬ jn F L (ofs F L M ok m).2 1 = 0 ∧ 0 < wy F L ok (M - (m + 1)) (m + 1) ((ofs F L M ok m).1 + 1) (jn F L (ofs F L M ok m).2 1) then ((ofs F L M ok m).1 + 1, jn F L (ofs F L M ok m).2 1) else ((ofs F L M ok m).1, jn F L (ofs F L M ok m).2 0)
theorem ofs_ok {F L M : Nat} {ok : Nat → Nat → Bool} (hF : F ≤ 5) (hL : L ≤ 5) (hw : 0 < wy F L ok M 0 0 0) : ∀ m : Nat, m ≤ M → 0 < wy F L ok (M - m) m (ofs F L M ok m).1 (ofs F L M ok m).2 ∧ (ofs F L M ok m).1 ≤ m ∧ (ofs F L M ok m).2 ≤ 10 ∧ (1 ≤ m → 1 ≤ (ofs F L M ok m).2) := by
  intro m
  induction m with
  | zero =>
    intro _
    rw [ofs]
    exact ⟨hw, Nat.le_refl 0, by omega, fun h => absurd h (by omega)⟩
  | succ m ih =>
    intro hm
    obtain ⟨h1, h2, h3, _⟩ := ih (by omega)
    obtain ⟨d, hd⟩ : ∃ d, M - m = d + 1 := ⟨M - m - 1, by omega⟩
    have hd2 : M - (m + 1) = d := by omega
    have j1 := jn_le F L (ofs F L M ok m).2 1 hF hL
    have j0 := jn_le F L (ofs F L M ok m).2 0 hF hL
    rw [ofs, hd2]
    generalize (ofs F L M ok m).1 = a at h1 h2 j1 j0 ⊢
    generalize (ofs F L M ok m).2 = r at h1 h3 j1 j0 ⊢
    rw [hd, wy] at h1
    by_cases hok : ok m a = true
    · rw [if_pos hok] at h1
      by_cases hc : ¬ jn F L r 1 = 0 ∧ 0 < wy F L ok d (m + 1) (a + 1) (jn F L r 1)
      · rw [if_pos hc]
        exact ⟨hc.2, by omega, j1, fun _ => by have := hc.1; omega⟩
      · rw [if_neg hc]
        have e : (if jn F L r 1 = 0 then 0 else wy F L ok d (m + 1) (a + 1) (jn F L r 1)) = 0 := by
          by_cases hz : jn F L r 1 = 0
          · rw [if_pos hz]
          · rw [if_neg hz]
            have : ¬ 0 < wy F L ok d (m + 1) (a + 1) (jn F L r 1) := fun q => hc ⟨hz, q⟩
            omega
        rw [e, Nat.add_zero] at h1
        by_cases hz : jn F L r 0 = 0
        · rw [if_pos hz] at h1
          omega
        · rw [if_neg hz] at h1
          exact ⟨h1, by omega, j0, fun _ => by omega⟩
    · rw [if_neg hok] at h1
      omega
theorem dv_day (m a : Nat) : fX11_dayOf (nI m) (nI a) = nI (29 * m + a) := by
  unfold fX11_dayOf
  rw [show (29 : Int32) = nI 29 from rfl, pk_mul, nI_add]
theorem bt_sr1 (x : Int32) {k : Nat} (hk : k < 32) : ((x >>> (nI k &&& 31)) &&& (1 : Int32)) = 0 ↔ bt x k = false := by
  rw [bt_and1, b_sshr k hk x (by omega), Nat.add_zero, if_pos hk]
theorem bi_s (a b c : Int32) (f g : Nat → Int32) (z : Nat) (x y w : Int32) (h : Nat → Int32) : lfX3_beginsInto a b c f g (z + 1) x y w h = dfX3_beginsInto_11 a b c f g (lfX3_beginsInto a b c f g z) x y w h := rfl
theorem bi_L {F L M : Nat} {ok : Nat → Nat → Bool} {fon fbg : Nat → Int32} (hM : M ≤ 24) (hF1 : 1 ≤ F) (hL1 : 1 ≤ L) (hF : F ≤ 5) (hL : L ≤ 5) (hw : 0 < wy F L ok M 0 0 0) (hZ : oZ fon) (hE : ∀ m' c' : Nat, m' ≤ M → oV F L m' c' → oE F L M ok (fon (11 * m' + c')) m' c') : ∀ (k m c z : Nat) (bg : Nat → Int32), m + k = M → k < z → oV F L m c → rho F c = (ofs F L M ok m).2 → (∀ j, m < j → j ≤ M → lfX3_beginsInto (nI M) (nI F) (nI L) fon fbg z (nI (ofs F L M ok m).1) (nI c) (nI m) bg j = nI (29 * j + (ofs F L M ok j).1)) ∧ ∀ j, j ≤ m → lfX3_beginsInto (nI M) (nI F) (nI L) fon fbg z (nI (ofs F L M ok m).1) (nI c) (nI m) bg j = bg j := by
  intro k
  induction k with
  | zero =>
    intro m c z bg hm hz hc hr
    obtain ⟨z, rfl⟩ : ∃ y, z = y + 1 := ⟨z - 1, by omega⟩
    have e : m = M := by omega
    subst e
    have e1 : lfX3_beginsInto (nI m) (nI F) (nI L) fon fbg (z + 1) (nI (ofs F L m ok m).1) (nI c) (nI m) bg = bg := by
      rw [bi_s]
      unfold dfX3_beginsInto_11
      rw [if_pos (Int32.le_refl _)]
    rw [e1]
    exact ⟨fun j q1 q2 => absurd q1 (by omega), fun j _ => rfl⟩
  | succ k ih =>
    intro m c z bg hm hz hc hr
    obtain ⟨z, rfl⟩ : ∃ y, z = y + 1 := ⟨z - 1, by omega⟩
    obtain ⟨w1, w2, w3, w4⟩ := ofs_ok hF hL hw m (by omega)
    obtain ⟨v1, v2, v3, v4⟩ := ofs_ok hF hL hw (m + 1) (by omega)
    have hcle : c ≤ F + L := by rcases hc with hc | hc <;> omega
    obtain ⟨j1, j0, l1, l0⟩ := cf_jn hF1 hL1 hF hL hcle
    rw [hr] at j1 j0
    have hstep : ∃ c', oV F L (m + 1) c' ∧ rho F c' = (ofs F L M ok (m + 1)).2 ∧ lfX3_beginsInto (nI M) (nI F) (nI L) fon fbg (z + 1) (nI (ofs F L M ok m).1) (nI c) (nI m) bg = lfX3_beginsInto (nI M) (nI F) (nI L) fon fbg z (nI (ofs F L M ok (m + 1)).1) (nI c') (nI (m + 1)) (upd bg (m + 1) (nI (29 * (m + 1) + (ofs F L M ok (m + 1)).1))) := by
      have hbit : bt (fon (11 * (m + 1) + cf F c)) ((ofs F L M ok m).1 + 1) = decide (¬ jn F L (ofs F L M ok m).2 1 = 0 ∧ 0 < wy F L ok (M - (m + 1)) (m + 1) ((ofs F L M ok m).1 + 1) (jn F L (ofs F L M ok m).2 1)) := by
        by_cases hz : cf F c = 0
        · rw [hz, Nat.add_zero, hZ (m + 1) (by omega) (by omega), b_0, j1, if_pos hz]
          simp
        · rw [hE (m + 1) (cf F c) (by omega) (Or.inr ⟨by omega, by omega, by omega⟩) _ (by omega), j1, if_neg hz]
          have := rho_0 (F := F) hz
          have h5 : (ofs F L M ok m).1 + 1 ≤ m + 1 := by omega
          simp [this, h5]
      rw [bi_s]
      unfold dfX3_beginsInto_11 bfX3_beginsInto_76
      rw [if_neg (fun q => by have := (nI_leI (by omega) (by omega)).1 q; omega), cal_b, pj_rf hF (by omega), nI_1, nI_1, show nI (m + 1) * (11 : Int32) + nI (cf F c) = nI (11 * (m + 1) + cf F c) from by rw [show (11 : Int32) = nI 11 from rfl, pk_mul, nI_add, Nat.mul_comm], nI_clamp (by omega)]
      by_cases hcnd : ¬ jn F L (ofs F L M ok m).2 1 = 0 ∧ 0 < wy F L ok (M - (m + 1)) (m + 1) ((ofs F L M ok m).1 + 1) (jn F L (ofs F L M ok m).2 1)
      · have e : ofs F L M ok (m + 1) = ((ofs F L M ok m).1 + 1, jn F L (ofs F L M ok m).2 1) := by rw [ofs, if_pos hcnd]
        have hz : ¬ cf F c = 0 := fun q => hcnd.1 (by rw [j1, if_pos q])
        rw [if_neg (fun q => by rw [bt_sr1 _ (by omega), hbit, decide_eq_false_iff_not] at q; exact q hcnd)]
        refine ⟨cf F c, Or.inr ⟨by omega, by omega, l1⟩, by rw [e, j1, if_neg hz], ?_⟩
        rw [cal_b, dv_day, nI_clamp (by omega), e]
      · have e : ofs F L M ok (m + 1) = ((ofs F L M ok m).1, jn F L (ofs F L M ok m).2 0) := by rw [ofs, if_neg hcnd]
        have hz : ¬ cl F L c = 0 := fun q => by
          have h6 := v4 (by omega)
          rw [e, j0, if_pos q] at h6
          exact absurd h6 (Nat.not_succ_le_zero 0)
        rw [if_pos (by rw [bt_sr1 _ (by omega), hbit, decide_eq_false_iff_not]; exact hcnd)]
        refine ⟨cl F L c, Or.inr ⟨by omega, by omega, l0⟩, by rw [e, j0, if_neg hz], ?_⟩
        rw [cal_b, cal_b, pj_rl hF hL (by omega), dv_day, nI_clamp (by omega), e]
    obtain ⟨c', g1, g2, g3⟩ := hstep
    rw [g3]
    obtain ⟨i1, i2⟩ := ih (m + 1) c' z (upd bg (m + 1) (nI (29 * (m + 1) + (ofs F L M ok (m + 1)).1))) (by omega) (by omega) g1 g2
    refine ⟨fun j q1 q2 => ?_, fun j q => ?_⟩
    · by_cases e : j = m + 1
      · rw [i2 j (by omega), e]
        exact if_pos rfl
      · exact i1 j (by omega) q2
    · rw [i2 j (by omega)]
      exact if_neg (by omega)
theorem bi_begins {F L M : Nat} {ok : Nat → Nat → Bool} {fon fbg : Nat → Int32} (hM : M ≤ 24) (hF1 : 1 ≤ F) (hL1 : 1 ≤ L) (hF : F ≤ 5) (hL : L ≤ 5) (hw : 0 < wy F L ok M 0 0 0) (hZ : oZ fon) (hE : ∀ m' c' : Nat, m' ≤ M → oV F L m' c' → oE F L M ok (fon (11 * m' + c')) m' c') : ∀ j, j ≤ M → fX3_beginsInto (nI M) (nI F) (nI L) fon fbg j = nI (29 * j + (ofs F L M ok j).1) := by
  intro j hj
  have h := bi_L (fbg := fbg) hM hF1 hL1 hF hL hw hZ hE M 0 0 1000000000 (upd fbg 0 (0 : Int32)) (by omega) (by omega) (Or.inl ⟨rfl, rfl⟩) (by rw [ofs]; unfold rho; rw [if_pos (by omega)])
  rw [show (ofs F L M ok 0).1 = 0 from by rw [ofs], nI_0] at h
  unfold fX3_beginsInto
  rw [show (0 : Int32).toNatClampNeg = 0 from rfl]
  by_cases e : j = 0
  · rw [e, h.2 0 (by omega), show (ofs F L M ok 0).1 = 0 from by rw [ofs]]
    exact if_pos rfl
  · exact h.1 j (by omega) hj
noncomputable def eyb (hm ms mp : Int32) (k m d : Nat) : Bool := decide (k = 0 ∧ ¬ hm = 0 ∧ ¬ fX0_earlyOf ms mp (nI m) ≤ nI d)
noncomputable def vst (F L M : Nat) (hm ms mp : Int32) (ok : Nat → Nat → Bool) (k m d : Nat) : Nat × (Nat → Nat → Bool) := if eyb hm ms mp k m d = true then (1, ok) else if 0 < wy F L (nrw ok k m d) M 0 0 0 then (0, nrw ok k m d) else (2, ok)
noncomputable def jd (F L M : Nat) (hm ms mp : Int32) (kd mo dy : Nat → Nat) : List Nat → (Nat → Nat → Bool) × (Nat → Nat)
  | [] => (okF, fun _ => 3)
  | r :: l => ((vst F L M hm ms mp (jd F L M hm ms mp kd mo dy l).1 (kd r) (mo r) (dy r)).2, fun j => if j = r then (vst F L M hm ms mp (jd F L M hm ms mp kd mo dy l).1 (kd r) (mo r) (dy r)).1 else (jd F L M hm ms mp kd mo dy l).2 j)
theorem jd_out {F L M : Nat} {hm ms mp : Int32} {kd mo dy : Nat → Nat} {x : Nat} : ∀ l : List Nat, ¬ x ∈ l → (jd F L M hm ms mp kd mo dy l).2 x = 3 := by
  intro l
  induction l with
  | nil => intro _; rfl
  | cons r l ih =>
    intro h
    rw [List.mem_cons, not_or] at h
    rw [jd]
    show (if x = r then _ else _) = 3
    rw [if_neg h.1]
    exact ih h.2
theorem vst_le {F L M : Nat} {hm ms mp : Int32} {ok : Nat → Nat → Bool} {k m d : Nat} : (vst F L M hm ms mp ok k m d).1 ≤ 2 := by
  unfold vst
  split
  · exact (by decide : 1 ≤ 2)
  · split
    · exact (by decide : 0 ≤ 2)
    · exact Nat.le_refl 2
theorem jd_le {F L M : Nat} {hm ms mp : Int32} {kd mo dy : Nat → Nat} {x : Nat} : ∀ l : List Nat, (jd F L M hm ms mp kd mo dy l).2 x ≤ 3 := by
  intro l
  induction l with
  | nil => exact Nat.le_refl 3
  | cons r l ih =>
    rw [jd]
    show (if x = r then _ else _) ≤ 3
    split
    · exact Nat.le_trans vst_le (by decide)
    · exact ih
theorem vst_pos {F L M : Nat} {hm ms mp : Int32} {ok : Nat → Nat → Bool} {k m d : Nat} (h : 0 < wy F L ok M 0 0 0) : 0 < wy F L (vst F L M hm ms mp ok k m d).2 M 0 0 0 := by
  unfold vst
  split
  · exact h
  · split
    · rename_i h1
      exact h1
    · exact h
theorem jd_pos {F L M : Nat} {hm ms mp : Int32} {kd mo dy : Nat → Nat} (hF1 : 1 ≤ F) (hL1 : 1 ≤ L) : ∀ l : List Nat, 0 < wy F L (jd F L M hm ms mp kd mo dy l).1 M 0 0 0 := by
  intro l
  induction l with
  | nil => exact wy_free hF1 hL1 M 0 0 0
  | cons r l ih =>
    rw [jd]
    exact vst_pos ih
theorem fxA_cong {f g : Nat → Int32} {M : Nat} {ok : Nat → Nat → Bool} (h : fxA f M ok) (e : ∀ m, m ≤ M → g m = f m) : fxA g M ok := by
  intro m hm i hi
  rw [e m hm]
  exact h m hm i hi
theorem vo_go {F L M k m d : Nat} {ok : Nat → Nat → Bool} {al on : Nat → Int32} {hm ms mp a b : Int32} {c1 c2 : Nat → Int32} (hM1 : 1 ≤ M) (hM : M ≤ 24) (hF1 : 1 ≤ F) (hL1 : 1 ≤ L) (hF : F ≤ 5) (hL : L ≤ 5) (hk : k ≤ 2) (hmM : m ≤ M) (hd : d ≤ 999) (hA : fxA al M ok) (hZ : oZ on) (hw : 0 < wy F L ok M 0 0 0) (he : ¬ eyb hm ms mp k m d = true) : ∃ al' on' : Nat → Int32, bfX1_verdictOn_41 (nI M) (nI F) (nI L) c1 c2 hm ms mp (nI k) (nI m) (nI d) al on = (nI (vst F L M hm ms mp ok k m d).1, al', on') ∧ fxA al' M (vst F L M hm ms mp ok k m d).2 ∧ oZ on' := by
  have hN := nw_narrow hA hk (show m ≤ 24 by omega) hd
  obtain ⟨f1, f2, _⟩ := pf_fits hM1 hM hF1 hL1 hF hL hN hZ
  have ev : vst F L M hm ms mp ok k m d = if 0 < wy F L (nrw ok k m d) M 0 0 0 then (0, nrw ok k m d) else (2, ok) := by
    unfold vst
    rw [if_neg he]
  unfold bfX1_verdictOn_41 bfX1_verdictOn_90
  rw [cal_b, nI_clamp (show m < 2 ^ 31 by omega)]
  by_cases hs : fX3_narrow al (nI k) (nI m) (nI d) m = al m
  · rw [if_pos hs]
    have e := nw_same hA hk (show m ≤ 24 by omega) hd hM hmM hs
    have e2 := wy_cong (F := F) (L := L) e M 0 0 0 (by omega) (by omega)
    have e3 : 0 < wy F L (nrw ok k m d) M 0 0 0 := by rw [e2]; exact hw
    rw [ev, if_pos e3]
    exact ⟨_, _, rfl, hN, hZ⟩
  · rw [if_neg hs, cal_b]
    by_cases hp : 0 < wy F L (nrw ok k m d) M 0 0 0
    · rw [if_pos hp] at f1
      rw [ev, if_pos hp, if_neg (by rw [f1]; decide)]
      exact ⟨_, _, rfl, hN, f2⟩
    · rw [if_neg hp] at f1
      rw [ev, if_neg hp, if_pos f1]
      refine ⟨_, _, rfl, fxA_cong hA (fun m' hm' => ?_), f2⟩
      by_cases e : m' = m
      · rw [e]
        exact if_pos rfl
      · rw [show upd (fX3_narrow al (nI k) (nI m) (nI d)) m (al m) m' = fX3_narrow al (nI k) (nI m) (nI d) m' from if_neg e]
        exact nw_at (by omega) e
theorem vo_eq {F L M k m d : Nat} {ok : Nat → Nat → Bool} {al on : Nat → Int32} {hm ms mp : Int32} (hM1 : 1 ≤ M) (hM : M ≤ 24) (hF1 : 1 ≤ F) (hL1 : 1 ≤ L) (hF : F ≤ 5) (hL : L ≤ 5) (hk : k ≤ 2) (hmM : m ≤ M) (hd : d ≤ 999) (hA : fxA al M ok) (hZ : oZ on) (hw : 0 < wy F L ok M 0 0 0) : ∃ al' on' : Nat → Int32, fX1_verdictOn (nI M) (nI F) (nI L) al on hm ms mp (nI k) (nI m) (nI d) = (nI (vst F L M hm ms mp ok k m d).1, al', on') ∧ fxA al' M (vst F L M hm ms mp ok k m d).2 ∧ oZ on' := by
  have hgo : ¬ eyb hm ms mp k m d = true → ∃ al' on' : Nat → Int32, bfX1_verdictOn_41 (nI M) (nI F) (nI L) al on hm ms mp (nI k) (nI m) (nI d) al on = (nI (vst F L M hm ms mp ok k m d).1, al', on') ∧ fxA al' M (vst F L M hm ms mp ok k m d).2 ∧ oZ on' := fun he => vo_go (a := 0) (b := 0) hM1 hM hF1 hL1 hF hL hk hmM hd hA hZ hw he
  have heq : eyb hm ms mp k m d = true ↔ (k = 0 ∧ ¬ hm = 0 ∧ ¬ fX0_earlyOf ms mp (nI m) ≤ nI d) := by
    unfold eyb
    rw [decide_eq_true_eq]
  unfold fX1_verdictOn bfX1_verdictOn_18 bfX1_verdictOn_19
  by_cases h0 : k = 0
  · rw [if_pos (by rw [h0]; rfl)]
    by_cases h1 : hm = 0
    · rw [if_pos h1, if_pos rfl]
      exact hgo (fun q => (heq.1 q).2.1 h1)
    · rw [if_neg h1, if_neg (by decide : ¬ (1 : Int32) = 0), cal_b]
      by_cases h2 : fX0_earlyOf ms mp (nI m) ≤ nI d
      · rw [if_pos h2]
        exact hgo (fun q => (heq.1 q).2.2 h2)
      · rw [if_neg h2]
        have ev : vst F L M hm ms mp ok k m d = (1, ok) := by
          unfold vst
          rw [if_pos (heq.2 ⟨h0, h1, h2⟩)]
        rw [ev]
        exact ⟨_, _, rfl, hA, hZ⟩
  · rw [if_neg (nI_ne0 (by omega) (by omega)), if_pos rfl]
    exact hgo (fun q => h0 (heq.1 q).1)
theorem sf_step {f : Nat → Int32} : ∀ {l : List Nat} {i : Nat}, Rg f l → i < l.length → ∃ x, x ∈ l ∧ l.drop (l.length - (i + 1)) = x :: l.drop (l.length - i) ∧ f i = nI x := by
  intro l
  induction l with
  | nil => intro i _ h; exact absurd h (by rw [List.length_nil]; omega)
  | cons y l ih =>
    intro i hR hi
    rw [List.length_cons] at hi ⊢
    by_cases e : i = l.length
    · subst e
      refine ⟨y, List.mem_cons.mpr (Or.inl rfl), ?_, hR.1⟩
      rw [Nat.sub_self, show l.length + 1 - l.length = 1 from by omega]
      rfl
    · obtain ⟨x, h1, h2, h3⟩ := ih hR.2 (show i < l.length by omega)
      refine ⟨x, List.mem_cons.mpr (Or.inr h1), ?_, h3⟩
      rw [show l.length + 1 - (i + 1) = (l.length - (i + 1)) + 1 from by omega, show l.length + 1 - i = (l.length - i) + 1 from by omega, List.drop_succ_cons, List.drop_succ_cons]
      exact h2
theorem ins_nodup {lt : Nat → Nat → Bool} {r : Nat} : ∀ {l : List Nat}, ¬ r ∈ l → l.Nodup → (ins lt r l).Nodup := by
  intro l
  induction l with
  | nil =>
    intro _ _
    rw [ins]
    simp
  | cons q l ih =>
    intro h1 h2
    rw [List.mem_cons, not_or] at h1
    rw [List.nodup_cons] at h2
    rw [ins]
    split
    · rw [List.nodup_cons]
      refine ⟨fun h => ?_, ih h1.2 h2.2⟩
      rcases ins_mem h with h | h
      · exact h1.1 h.symm
      · exact h2.1 h
    · rw [List.nodup_cons, List.nodup_cons, List.mem_cons, not_or]
      exact ⟨h1, h2⟩
theorem lin_nodup {lt : Nat → Nat → Bool} {K : Nat → Bool} : ∀ n : Nat, (lin lt K n).Nodup := by
  intro n
  induction n with
  | zero =>
    rw [lin]
    exact List.nodup_nil
  | succ n ih =>
    rw [lin]
    split
    · exact ins_nodup (fun h => by have := (lin_mem h).1; omega) ih
    · exact ih
theorem cj_s (a b : Nat → Int32) (c : Nat → Int64) (d e f : Nat → Int32) (g h i j k l m : Int32) (n o p q r s t u : Nat → Int32) (v : Int32) (z : Nat) (x1 x2 x3 x4 x5 x6 : Int32) (y1 y2 : Nat → Int32) (y3 : Nat → Int64) (y4 y5 : Nat → Int32) : lfX1_judge a b c d e f g h i j k l m n o p q r s t u v (z + 1) x1 x2 x3 x4 x5 x6 y1 y2 y3 y4 y5 = dfX1_judge_21 a b c d e f g h i j k l m n o p q r s t u v (lfX1_judge a b c d e f g h i j k l m n o p q r s t u v z) x1 x2 x3 x4 x5 x6 y1 y2 y3 y4 y5 := rfl
def tbE (tb : Int32) (n : Nat) (V : Nat → Nat) : Prop := ∀ j : Nat, j < 32 → bt tb j = decide (j < n ∧ V j = 0)
def CT (F L M n : Nat) (hm ms mp : Int32) (kd mo dy : Nat → Nat) (l : List Nat) (ql tb fm ff fl : Int32) (ve qu bg al on : Nat → Int32) : Prop :=
  ql = nI l.length ∧ tbE tb n (jd F L M hm ms mp kd mo dy l).2 ∧ fm = nI M ∧ ff = nI F ∧ fl = nI L ∧ (∀ j, j < n → ve j = nI ((jd F L M hm ms mp kd mo dy l).2 j)) ∧ Rg qu l ∧ (∀ m, m ≤ M → bg m = nI (29 * m + (ofs F L M (jd F L M hm ms mp kd mo dy l).1 m).1)) ∧ fxA al M (jd F L M hm ms mp kd mo dy l).1 ∧ oZ on
theorem cj_L {F L M n : Nat} {hm ms mp : Int32} {kd mo dy : Nat → Nat} {l : List Nat} {fve fqu fcb ffal ffon pn pt rp rk rm rd rn rs qu : Nat → Int32} {ftu tu : Nat → Int64} {am af alx t : Int32} (hn : n ≤ 24) (hM1 : 1 ≤ M) (hM : M ≤ 24) (hF1 : 1 ≤ F) (hL1 : 1 ≤ L) (hF : F ≤ 5) (hL : L ≤ 5) (hR : ∀ j, j < n → kd j ≤ 2 ∧ mo j < M ∧ dy j ≤ 999 ∧ rk j = nI (kd j) ∧ rm j = nI (mo j) ∧ rd j = nI (dy j)) (hl : ∀ x, x ∈ l → x < n) (hll : l.length ≤ 24) (hnd : l.Nodup) (hq : Rg qu l) :
    ∀ (k i z : Nat) (tb : Int32) (ve al on : Nat → Int32), i + k = l.length → k < z → tbE tb n (jd F L M hm ms mp kd mo dy (l.drop (l.length - i))).2 → (∀ j, j < n → ve j = nI ((jd F L M hm ms mp kd mo dy (l.drop (l.length - i))).2 j)) → fxA al M (jd F L M hm ms mp kd mo dy (l.drop (l.length - i))).1 → oZ on →
      ∃ (tb' : Int32) (ve' bg' al' on' : Nat → Int32), lfX1_judge fve fqu ftu fcb ffal ffon am af alx hm ms mp (nI n) pn pt rp rk rm rd rn rs t z (nI i) (nI l.length) tb (nI M) (nI F) (nI L) ve qu tu al on = (nI l.length, tb', nI M, nI F, nI L, ve', qu, tu, bg', al', on') ∧ CT F L M n hm ms mp kd mo dy l (nI l.length) tb' (nI M) (nI F) (nI L) ve' qu bg' al' on' := by
  intro k
  induction k with
  | zero =>
    intro i z tb ve al on hi hz htb hve hal hon
    obtain ⟨z, rfl⟩ : ∃ y, z = y + 1 := ⟨z - 1, by omega⟩
    have e : i = l.length := by omega
    subst e
    rw [Nat.sub_self, List.drop_zero] at htb hve hal
    have hpos := jd_pos (M := M) (hm := hm) (ms := ms) (mp := mp) (kd := kd) (mo := mo) (dy := dy) hF1 hL1 l
    obtain ⟨f1, f2, f3⟩ := pf_fits hM1 hM hF1 hL1 hF hL hal hon
    refine ⟨_, _, _, _, _, ?_, rfl, htb, rfl, rfl, rfl, hve, hq, bi_begins (fbg := fcb) hM hF1 hL1 hF hL hpos f2 f3, hal, f2⟩
    rw [cj_s]
    unfold dfX1_judge_21
    rw [if_pos (Int32.le_refl _), cal_b, cal_b]
  | succ k ih =>
    intro i z tb ve al on hi hz htb hve hal hon
    obtain ⟨z, rfl⟩ : ∃ y, z = y + 1 := ⟨z - 1, by omega⟩
    obtain ⟨x, x1, x2, x3⟩ := sf_step hq (show i < l.length by omega)
    have xn := hl x x1
    obtain ⟨r1, r2, r3, r4, r5, r6⟩ := hR x xn
    have hpos := jd_pos (M := M) (hm := hm) (ms := ms) (mp := mp) (kd := kd) (mo := mo) (dy := dy) hF1 hL1 (l.drop (l.length - i))
    have hnx : ¬ x ∈ l.drop (l.length - i) := by
      have h1 : (l.drop (l.length - (i + 1))).Nodup := hnd.sublist (List.drop_sublist _ _)
      rw [x2, List.nodup_cons] at h1
      exact h1.1
    have hold := jd_out (F := F) (L := L) (M := M) (hm := hm) (ms := ms) (mp := mp) (kd := kd) (mo := mo) (dy := dy) _ hnx
    obtain ⟨al', on', v1, v2, v3⟩ := vo_eq (hm := hm) (ms := ms) (mp := mp) hM1 hM hF1 hL1 hF hL r1 (show mo x ≤ M by omega) r3 hal hon hpos
    have hvle := vst_le (F := F) (L := L) (M := M) (hm := hm) (ms := ms) (mp := mp) (ok := (jd F L M hm ms mp kd mo dy (l.drop (l.length - i))).1) (k := kd x) (m := mo x) (d := dy x)
    have hj1 : (jd F L M hm ms mp kd mo dy (l.drop (l.length - (i + 1)))).1 = (vst F L M hm ms mp (jd F L M hm ms mp kd mo dy (l.drop (l.length - i))).1 (kd x) (mo x) (dy x)).2 := by rw [x2, jd]
    have hj2 : ∀ j, (jd F L M hm ms mp kd mo dy (l.drop (l.length - (i + 1)))).2 j = if j = x then (vst F L M hm ms mp (jd F L M hm ms mp kd mo dy (l.drop (l.length - i))).1 (kd x) (mo x) (dy x)).1 else (jd F L M hm ms mp kd mo dy (l.drop (l.length - i))).2 j := by
      intro j
      rw [x2, jd]
    have hve' : ∀ j, j < n → upd ve x (nI (vst F L M hm ms mp (jd F L M hm ms mp kd mo dy (l.drop (l.length - i))).1 (kd x) (mo x) (dy x)).1) j = nI ((jd F L M hm ms mp kd mo dy (l.drop (l.length - (i + 1)))).2 j) := by
      intro j hj
      rw [hj2]
      by_cases e : j = x
      · rw [if_pos e]
        exact if_pos e
      · rw [if_neg e, ← hve j hj]
        exact if_neg e
    have hal' : fxA al' M (jd F L M hm ms mp kd mo dy (l.drop (l.length - (i + 1)))).1 := by rw [hj1]; exact v2
    rw [cj_s]
    unfold dfX1_judge_21 bfX1_judge_79
    rw [if_neg (fun w => by have := (nI_leI (by omega) (by omega)).1 w; omega), nI_clamp (show i < 2 ^ 31 by omega), x3, nI_clamp (show x < 2 ^ 31 by omega), r4, r5, r6, cal_b, v1, nI_1]
    show ∃ (tb' : Int32) (ve' bg' al' on' : Nat → Int32), (if upd ve x (nI (vst F L M hm ms mp (jd F L M hm ms mp kd mo dy (l.drop (l.length - i))).1 (kd x) (mo x) (dy x)).1) x = (0 : Int32) then _ else _) = _ ∧ _
    rw [show upd ve x (nI (vst F L M hm ms mp (jd F L M hm ms mp kd mo dy (l.drop (l.length - i))).1 (kd x) (mo x) (dy x)).1) x = nI (vst F L M hm ms mp (jd F L M hm ms mp kd mo dy (l.drop (l.length - i))).1 (kd x) (mo x) (dy x)).1 from if_pos rfl]
    by_cases h0 : (vst F L M hm ms mp (jd F L M hm ms mp kd mo dy (l.drop (l.length - i))).1 (kd x) (mo x) (dy x)).1 = 0
    · rw [if_pos (by rw [h0]; rfl)]
      refine ih (i + 1) z _ _ al' on' (by omega) (by omega) ?_ hve' hal' v3
      intro j hj
      rw [b_or, htb j hj, sh_1 x (by omega) j hj, hj2]
      by_cases e : j = x
      · rw [if_pos e, h0]
        simp [e, xn]
      · rw [if_neg e]
        simp [e]
    · rw [if_neg (nI_ne0 (by omega) (by omega))]
      refine ih (i + 1) z _ _ al' on' (by omega) (by omega) ?_ hve' hal' v3
      intro j hj
      rw [htb j hj, hj2]
      by_cases e : j = x
      · rw [if_pos e, e, hold]
        simp [h0]
      · rw [if_neg e]
theorem cj_eq {F L M n m : Nat} {hm ms mp : Int32} {tr nm pl kd mo dy : Nat → Nat} {fve fqu fcb ffal ffon pn pt rp rk rm rd rn rs : Nat → Int32} {ftu : Nat → Int64} {t : Int32} {K : Nat → Bool} (h : RW M n m tr nm pl kd mo dy) (hm6 : m ≤ 6) (hn : n ≤ 24) (hM1 : 1 ≤ M) (hM : M ≤ 24) (hF1 : 1 ≤ F) (hL1 : 1 ≤ L) (hF : F ≤ 5) (hL : L ≤ 5) (hP : ∀ p, p < m → pt p = nI (tr p) ∧ pn p = nI (nm p)) (hR : ∀ j, j < n → rp j = nI (pl j) ∧ rk j = nI (kd j) ∧ rm j = nI (mo j) ∧ rd j = nI (dy j)) (hK : ∀ j, j < n → (K j = true ↔ ¬ fX7_isKnownBy (rn j) (rs j) t = 0)) (hZ : oZ ffon) :
    ∃ (ql tb a b c : Int32) (ve qu bg al on : Nat → Int32) (tu : Nat → Int64), fX1_judge fve fqu ftu fcb ffal ffon (nI M) (nI F) (nI L) hm ms mp (nI n) pn pt rp rk rm rd rn rs t = (ql, tb, a, b, c, ve, qu, tu, bg, al, on) ∧ CT F L M n hm ms mp kd mo dy (lin (ltr tr nm pl mo dy kd) K n) ql tb a b c ve qu bg al on := by
  obtain ⟨ve0, qu0, tu0, e1, e2, e3⟩ := cu_eq (fve := fve) (fqu := fqu) (ftu := ftu) h hm6 hM hn hP hR hK
  obtain ⟨g, e4, e5⟩ := op_open (fal := ffal) (F := nI F) (L := nI L) hM
  have hll := lin_len (lt := ltr tr nm pl mo dy kd) (K := K) n
  have hj : jd F L M hm ms mp kd mo dy ((lin (ltr tr nm pl mo dy kd) K n).drop ((lin (ltr tr nm pl mo dy kd) K n).length - 0)) = (okF, fun _ => 3) := by
    rw [Nat.sub_zero, List.drop_length, jd]
  obtain ⟨tb', ve', bg', al', on', e6, e7⟩ := cj_L (F := F) (L := L) (M := M) (n := n) (hm := hm) (ms := ms) (mp := mp) (kd := kd) (mo := mo) (dy := dy) (l := lin (ltr tr nm pl mo dy kd) K n) (fve := fve) (fqu := fqu) (fcb := fcb) (ffal := ffal) (ffon := ffon) (pn := pn) (pt := pt) (rp := rp) (rk := rk) (rm := rm) (rd := rd) (rn := rn) (rs := rs) (qu := qu0) (ftu := ftu) (tu := tu0) (am := nI M) (af := nI F) (alx := nI L) (t := t) hn hM1 hM hF1 hL1 hF hL (fun j hj => by
      obtain ⟨a1, a2, a3, a4, a5⟩ := h.2.2 j hj
      obtain ⟨b1, b2, b3, b4⟩ := hR j hj
      exact ⟨a2, a4, a5, b2, b3, b4⟩) (fun x hx => (lin_mem hx).1) (by omega) (lin_nodup n) e3 (lin (ltr tr nm pl mo dy kd) K n).length 0 1000000000 0 ve0 g ffon (by omega) (by omega) (by
      rw [hj]
      intro j hj
      rw [b_0]
      simp) (by
      rw [hj]
      intro j hj
      rw [e2 j hj]
      rfl) (by rw [hj]; exact e5) hZ
  refine ⟨_, _, _, _, _, _, _, _, _, _, tu0, ?_, e7⟩
  unfold fX1_judge
  rw [cal_b, cal_b, e1, e4]
  rw [nI_0] at e6
  exact e6
theorem io_eq (must least pin : Nat → Int32) (p x : Int32) : (¬ fX12_isOpen must least pin p x = 0) ↔ ((must p.toNatClampNeg = -1 ∨ must p.toNatClampNeg = x) ∧ ¬ x < least p.toNatClampNeg ∧ (pin p.toNatClampNeg = -1 ∨ pin p.toNatClampNeg = x)) := by
  have n1 : ¬ (1 : Int32) = 0 := by decide
  have hg : (¬ bfX12_isOpen_20 must least pin p x = 0) ↔ (¬ x < least p.toNatClampNeg ∧ (pin p.toNatClampNeg = -1 ∨ pin p.toNatClampNeg = x)) := by
    unfold bfX12_isOpen_20 bfX12_isOpen_54 bfX12_isOpen_50 bfX12_isOpen_55
    by_cases h1 : x < least p.toNatClampNeg
    · rw [if_pos h1]
      exact ⟨fun q => absurd rfl q, fun q => absurd h1 q.1⟩
    · rw [if_neg h1]
      by_cases h2 : pin p.toNatClampNeg = -1
      · rw [if_pos h2]
        exact ⟨fun _ => ⟨h1, Or.inl h2⟩, fun _ => n1⟩
      · rw [if_neg h2]
        by_cases h3 : pin p.toNatClampNeg = x
        · rw [if_pos h3]
          exact ⟨fun _ => ⟨h1, Or.inr h3⟩, fun _ => n1⟩
        · rw [if_neg h3]
          exact ⟨fun q => absurd rfl q, fun q => q.2.elim (fun w => absurd w h2) (fun w => absurd w h3)⟩
  unfold fX12_isOpen
  by_cases h1 : must p.toNatClampNeg = -1
  · rw [if_pos h1, hg]
    exact ⟨fun q => ⟨Or.inl h1, q⟩, fun q => q.2⟩
  · rw [if_neg h1]
    by_cases h2 : must p.toNatClampNeg = x
    · rw [if_pos h2, hg]
      exact ⟨fun q => ⟨Or.inr h2, q⟩, fun q => q.2⟩
    · rw [if_neg h2]
      unfold bfX12_isOpen_54 bfX12_isOpen_55
      exact ⟨fun q => absurd rfl q, fun q => q.1.elim (fun w => absurd w h1) (fun w => absurd w h2)⟩
def rOK (M : Nat) (ok : Nat → Nat → Bool) (must least : Nat → Int32) : Prop := ∀ m, m ≤ M → ∃ l, l ≤ 1001 ∧ least m = nI l ∧ (must m = -1 ∨ ∃ d, d ≤ 1000 ∧ must m = nI d) ∧ ∀ a, a ≤ m → (ok m a = true ↔ ((must m = -1 ∨ must m = nI (29 * m + a)) ∧ l ≤ 29 * m + a))
def pinF (pin : Nat → Int32) : Prop := ∀ m, m ≤ 24 → pin m = -1
theorem rOK_open {M : Nat} {ok : Nat → Nat → Bool} {must least pin : Nat → Int32} (hM : M ≤ 24) (h : rOK M ok must least) (hp : pinF pin) : ∀ m a : Nat, m ≤ M → a ≤ m → (ok m a = true ↔ ¬ fX12_isOpen must least pin (nI m) (nI (29 * m + a)) = 0) := by
  intro m a h1 h2
  obtain ⟨l, l1, l2, _, l3⟩ := h m h1
  rw [io_eq, nI_clamp (by omega), hp m (by omega), l2, l3 a h2]
  constructor
  · exact fun q => ⟨q.1, nI_nlt q.2 (by omega), Or.inl rfl⟩
  · intro q
    refine ⟨q.1, ?_⟩
    have q2 : ¬ 29 * m + a < l := fun w => q.2.1 (nI_lt w (by omega))
    omega
theorem rOK_cong {M : Nat} {ok : Nat → Nat → Bool} {must least must' least' : Nat → Int32} (h : rOK M ok must least) (e : ∀ m, m ≤ M → must' m = must m ∧ least' m = least m) : rOK M ok must' least' := by
  intro m hm
  rw [(e m hm).1, (e m hm).2]
  exact h m hm
theorem nIm1 {x : Nat} (h : x < 2 ^ 31) : ¬ nI x = (-1 : Int32) := by
  intro q
  have q1 := congrArg Int32.toInt q
  rw [nI_toInt h, show (-1 : Int32).toInt = -1 from by decide] at q1
  omega
theorem rh_eq {M k m d : Nat} {ok : Nat → Nat → Bool} {mi rm rd rk must least : Nat → Int32} {r : Nat} (h37 : mi 37 = 0) (hM : M ≤ 24) (hk : k ≤ 2) (hm : m ≤ M) (hd : d ≤ 999) (hr : r < 2 ^ 31) (ek : rk r = nI k) (em : rm r = nI m) (ed : rd r = nI d) (h : rOK M ok must least) : ∃ (b : Int32) (must' least' : Nat → Int32), fX12_holds mi rm rd rk must least (nI r) = (b, must', least') ∧ (∀ j, ¬ j = m → must' j = must j ∧ least' j = least j) ∧ (b = 0 → rOK M (nrw ok k m d) must' least') ∧ (¬ b = 0 → ∀ a, a ≤ m → nrw ok k m d m a = false) := by
  have hnr : ∀ m' a, ¬ m' = m → nrw ok k m d m' a = ok m' a := by
    intro m' a e
    unfold nrw
    simp [e]
  have hat : ∀ a, nrw ok k m d m a = (ok m a && rg k m d a) := by
    intro a
    unfold nrw
    simp
  have hmk : ∀ must' least' : Nat → Int32, (∀ j, ¬ j = m → must' j = must j ∧ least' j = least j) → (∃ l, l ≤ 1001 ∧ least' m = nI l ∧ (must' m = -1 ∨ ∃ d, d ≤ 1000 ∧ must' m = nI d) ∧ ∀ a, a ≤ m → ((ok m a && rg k m d a) = true ↔ ((must' m = -1 ∨ must' m = nI (29 * m + a)) ∧ l ≤ 29 * m + a))) → rOK M (nrw ok k m d) must' least' := by
    intro must' least' e1 e2 m' hm'
    by_cases e : m' = m
    · subst e
      obtain ⟨l, l1, l2, l3, l4⟩ := e2
      exact ⟨l, l1, l2, l3, fun a ha => by rw [hat]; exact l4 a ha⟩
    · obtain ⟨l, l1, l2, l3, l4⟩ := h m' hm'
      rw [(e1 m' e).1, (e1 m' e).2]
      exact ⟨l, l1, l2, l3, fun a ha => by rw [hnr m' a e]; exact l4 a ha⟩
  obtain ⟨l, l1, l2, l3, l4⟩ := h m hm
  unfold fX12_holds bfX12_holds_57 bfX12_holds_53 bfX12_holds_58 bfX12_holds_68 bfX12_holds_96
  rw [nI_clamp hr, ek, em, ed, nI_clamp (by omega), nI_1, h37]
  rcases (show k = 0 ∨ k = 1 ∨ k = 2 by omega) with rfl | rfl | rfl
  · rw [if_pos nI_0, if_pos rfl, if_neg (by decide : ¬ nI 0 = (1 : Int32)), if_neg (by decide : ¬ nI 0 = (1 : Int32))]
    have hrg : ∀ a, rg 0 m d a = decide (29 * m + a = d + 1) := by
      intro a
      unfold rg
      rw [if_neg (by decide), if_pos rfl]
    have hfr : ∀ j, ¬ j = m → upd must m (nI (d + 1)) j = must j ∧ least j = least j := fun j hj => ⟨if_neg hj, rfl⟩
    have hself : upd must m (nI (d + 1)) m = nI (d + 1) := if_pos rfl
    have hgood : (must m = -1 ∨ must m = nI (d + 1)) → rOK M (nrw ok 0 m d) (upd must m (nI (d + 1))) least := by
      intro hc
      refine hmk _ _ hfr ⟨l, l1, l2, Or.inr ⟨d + 1, by omega, hself⟩, fun a ha => ?_⟩
      rw [hself, hrg, Bool.and_eq_true, decide_eq_true_eq, l4 a ha]
      constructor
      · rintro ⟨⟨_, q2⟩, q3⟩
        exact ⟨Or.inr (by rw [q3]), q2⟩
      · rintro ⟨q1, q2⟩
        rcases q1 with q1 | q1
        · exact absurd q1 (nIm1 (by omega))
        · have q3 := (nI_eq (by omega) (by omega)).1 q1
          refine ⟨⟨?_, q2⟩, q3.symm⟩
          rcases hc with hc | hc
          · exact Or.inl hc
          · exact Or.inr (by rw [hc, q3])
    by_cases c1 : must m = -1
    · rw [if_pos c1]
      exact ⟨_, _, _, rfl, hfr, fun _ => hgood (Or.inl c1), fun q => absurd rfl q⟩
    · rw [if_neg c1]
      by_cases c2 : must m = nI (d + 1)
      · rw [if_pos c2]
        exact ⟨_, _, _, rfl, hfr, fun _ => hgood (Or.inr c2), fun q => absurd rfl q⟩
      · rw [if_neg c2]
        refine ⟨_, _, _, rfl, hfr, fun q => absurd q (by decide), fun _ a ha => ?_⟩
        rw [hat, hrg, Bool.and_eq_false_iff, decide_eq_false_iff_not]
        by_cases q : 29 * m + a = d + 1
        · left
          refine Bool.eq_false_iff.mpr (fun w => ?_)
          rcases ((l4 a ha).1 w).1 with w | w
          · exact c1 w
          · exact c2 (by rw [w, q])
        · exact Or.inr q
  · rw [if_neg (by decide : ¬ nI 1 = (0 : Int32)), if_pos (by decide : nI 1 = (1 : Int32)), nI_1, l2]
    have hrg : ∀ a, rg 1 m d a = decide (d + 1 < 29 * m + a) := by
      intro a
      unfold rg
      rw [if_neg (by decide), if_neg (by decide)]
    have hmax : (if nI l < nI (d + 1 + 1) then nI (d + 1 + 1) else nI l) = nI (if l < d + 2 then d + 2 else l) := by
      by_cases q : l < d + 2
      · rw [if_pos q, if_pos (nI_lt q (by omega))]
      · rw [if_neg q, if_neg (nI_nlt (by omega) (by omega))]
    rw [hmax]
    refine ⟨_, _, _, rfl, fun j hj => ⟨rfl, if_neg hj⟩, fun _ => hmk _ _ (fun j hj => ⟨rfl, if_neg hj⟩) ⟨if l < d + 2 then d + 2 else l, ?_, if_pos rfl, l3, fun a ha => ?_⟩, fun q => absurd rfl q⟩
    · split <;> omega
    · rw [hrg, Bool.and_eq_true, decide_eq_true_eq, l4 a ha]
      constructor
      · rintro ⟨⟨q1, q2⟩, q3⟩
        exact ⟨q1, by split <;> omega⟩
      · rintro ⟨q1, q2⟩
        refine ⟨⟨q1, ?_⟩, ?_⟩
        · split at q2 <;> omega
        · split at q2 <;> omega
  · rw [if_neg (by decide : ¬ nI 2 = (0 : Int32)), if_neg (by decide : ¬ nI 2 = (1 : Int32))]
    refine ⟨_, _, _, rfl, fun j hj => ⟨rfl, rfl⟩, fun _ => hmk _ _ (fun j hj => ⟨rfl, rfl⟩) ⟨l, l1, l2, l3, fun a ha => ?_⟩, fun q => absurd rfl q⟩
    have hrg : rg 2 m d a = true := by
      unfold rg
      rw [if_pos rfl]
    rw [hrg, Bool.and_true]
    exact l4 a ha
theorem wy_max {F L M : Nat} {ok : Nat → Nat → Bool} (hM : M ≤ 24) {d : Nat} (hd : d ≤ M) (m a r : Nat) : wy F L ok d m a r ≤ 16777216 := by
  have h1 := wy_le F L ok d m a r
  have h2 : 2 ^ d ≤ 2 ^ 24 := Nat.pow_le_pow_right (by decide) (by omega)
  have h3 : (2 : Nat) ^ 24 = 16777216 := by decide
  omega
theorem rj_go {F L M k m d : Nat} {ok : Nat → Nat → Bool} {mi must least pin ways rm rd rk : Nat → Int32} {hm ms mp : Int32} {r : Nat} (h0 : mi 0 = nI M) (h1 : mi 1 = nI F) (h2 : mi 2 = nI L) (h37 : mi 37 = 0) (hM : M ≤ 24) (hF : F ≤ 5) (hL : L ≤ 5) (hk : k ≤ 2) (hmM : m ≤ M) (hd : d ≤ 999) (hr : r < 2 ^ 31) (ek : rk r = nI k) (em : rm r = nI m) (ed : rd r = nI d) (h : rOK M ok must least) (hp : pinF pin) (he : ¬ eyb hm ms mp k m d = true) {c1 c2 c3 : Nat → Int32} : ∃ must' least' ways' : Nat → Int32, bfX12_judges_37 mi c1 c2 pin c3 rm rd rk (nI r) 0 must least ways = (nI (vst F L M hm ms mp ok k m d).1, 0, must', least', ways') ∧ rOK M (vst F L M hm ms mp ok k m d).2 must' least' := by
  have ev : vst F L M hm ms mp ok k m d = if 0 < wy F L (nrw ok k m d) M 0 0 0 then (0, nrw ok k m d) else (2, ok) := by
    unfold vst
    rw [if_neg he]
  obtain ⟨b, must', least', e1, e2, e3, e4⟩ := rh_eq (mi := upd mi 37 0) (if_pos rfl) hM hk hmM hd hr ek em ed h
  unfold bfX12_judges_37
  rw [cal_b, e1, cal_b]
  have hc : ∃ W : Nat, W ≤ 16777216 ∧ (fX12_counts (upd mi 37 b) must' least' pin ways).1 = nI W ∧ (0 < W ↔ 0 < wy F L (nrw ok k m d) M 0 0 0) ∧ (0 < W → b = 0) := by
    by_cases hb : b = 0
    · have q := (pc_counts (mi := upd mi 37 b) (must := must') (least := least') (pin := pin) (ways := ways) (F := F) (L := L) (M := M) (ok := nrw ok k m d) ((if_neg (by decide)).trans h0) hM ((if_neg (by decide)).trans h1) ((if_neg (by decide)).trans h2) hF hL (fun m' a' q1 q2 => by
        rw [rOK_open hM (e3 hb) hp m' a' q1 q2]
        exact ⟨fun q => ⟨(if_pos rfl : upd mi 37 b 37 = b).trans hb, q⟩, fun q => q.2⟩)).1
      exact ⟨_, wy_max hM (Nat.le_refl M) 0 0 0, q, Iff.rfl, fun _ => hb⟩
    · have q := (pc_counts (mi := upd mi 37 b) (must := must') (least := least') (pin := pin) (ways := ways) (F := F) (L := L) (M := M) (ok := fun _ _ => false) ((if_neg (by decide)).trans h0) hM ((if_neg (by decide)).trans h1) ((if_neg (by decide)).trans h2) hF hL (fun m' a' q1 q2 => by
        constructor
        · exact fun q => absurd q (by decide)
        · exact fun q => absurd ((if_pos rfl : upd mi 37 b 37 = b).symm.trans q.1) hb)).1
      have z1 : wy F L (fun _ _ => false) M 0 0 0 = 0 := wy_0 (by decide)
      have z2 : wy F L (nrw ok k m d) M 0 0 0 = 0 := wy_gap (M := M) (m0 := m) (e4 hb) M 0 0 0 (by omega) (by omega) (by omega)
      rw [z1] at q
      exact ⟨0, by omega, q, by rw [z2], fun q => absurd q (by omega)⟩
  obtain ⟨W, w1, w2, w3, w4⟩ := hc
  show ∃ must'' least'' ways' : Nat → Int32, (if (fX12_counts (upd mi 37 b) must' least' pin ways).1 ≤ (0 : Int32) then _ else _) = _ ∧ _
  rw [w2, nI_clamp hr, em, nI_clamp (show m < 2 ^ 31 by omega)]
  by_cases hW : 0 < W
  · rw [if_neg (nI_nle hW (by omega)), ev, if_pos (w3.1 hW), w4 hW]
    exact ⟨_, _, _, rfl, e3 (w4 hW)⟩
  · have hW0 : W = 0 := by omega
    rw [if_pos (by rw [hW0, nI_0]; exact Int32.le_refl 0), ev, if_neg (fun q => hW (w3.2 q))]
    refine ⟨_, _, _, rfl, rOK_cong h (fun m' hm' => ?_)⟩
    by_cases e : m' = m
    · rw [e]
      exact ⟨if_pos rfl, if_pos rfl⟩
    · exact ⟨(if_neg e).trans (e2 m' e).1, (if_neg e).trans (e2 m' e).2⟩
theorem rj_eq {F L M k m d : Nat} {ok : Nat → Nat → Bool} {mi must least pin ways rm rd rk : Nat → Int32} {r : Nat} (h0 : mi 0 = nI M) (h1 : mi 1 = nI F) (h2 : mi 2 = nI L) (h37 : mi 37 = 0) (hM : M ≤ 24) (hF : F ≤ 5) (hL : L ≤ 5) (hk : k ≤ 2) (hmM : m ≤ M) (hd : d ≤ 999) (hr : r < 2 ^ 31) (ek : rk r = nI k) (em : rm r = nI m) (ed : rd r = nI d) (h : rOK M ok must least) (hp : pinF pin) : ∃ must' least' ways' : Nat → Int32, fX12_judges mi must least pin ways rm rd rk (nI r) = (nI (vst F L M (mi 4) (mi 5) (mi 6) ok k m d).1, 0, must', least', ways') ∧ rOK M (vst F L M (mi 4) (mi 5) (mi 6) ok k m d).2 must' least' := by
  have hgo : ¬ eyb (mi 4) (mi 5) (mi 6) k m d = true → ∃ must' least' ways' : Nat → Int32, bfX12_judges_37 mi must least pin ways rm rd rk (nI r) 0 must least ways = (nI (vst F L M (mi 4) (mi 5) (mi 6) ok k m d).1, 0, must', least', ways') ∧ rOK M (vst F L M (mi 4) (mi 5) (mi 6) ok k m d).2 must' least' := fun he => rj_go h0 h1 h2 h37 hM hF hL hk hmM hd hr ek em ed h hp he
  have heq : eyb (mi 4) (mi 5) (mi 6) k m d = true ↔ (k = 0 ∧ ¬ mi 4 = 0 ∧ ¬ fX0_earlyOf (mi 5) (mi 6) (nI m) ≤ nI d) := by
    unfold eyb
    rw [decide_eq_true_eq]
  have hee : fX12_earlyOf mi (nI m) = fX0_earlyOf (mi 5) (mi 6) (nI m) := by
    unfold fX12_earlyOf fX0_earlyOf
    rfl
  unfold fX12_judges
  rw [nI_clamp hr, ek, em, ed, h37]
  by_cases c1 : mi 4 = 0
  · rw [if_pos c1]
    exact hgo (fun q => (heq.1 q).2.1 c1)
  · rw [if_neg c1]
    by_cases c0 : k = 0
    · rw [if_pos (by rw [c0]; rfl), cal_b, hee]
      by_cases c2 : fX0_earlyOf (mi 5) (mi 6) (nI m) ≤ nI d
      · rw [if_pos c2]
        exact hgo (fun q => (heq.1 q).2.2 c2)
      · rw [if_neg c2]
        have ev : vst F L M (mi 4) (mi 5) (mi 6) ok k m d = (1, ok) := by
          unfold vst
          rw [if_pos (heq.2 ⟨c0, c1, c2⟩)]
        rw [ev]
        exact ⟨_, _, _, rfl, h⟩
    · rw [if_neg (nI_ne0 (by omega) (by omega))]
      exact hgo (fun q => c0 (heq.1 q).1)
