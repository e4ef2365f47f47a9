set_option maxHeartbeats 4000000 in
set_option maxRecDepth 100000 in
theorem uX12_settled (l : Launch) (dC : Nat → ClassId) (dI : Nat → Nat → Nat) (sz : Nat) (hm : Nat) (mi : Nat → Int32) (mr : Nat → Nat) (km : Nat → ClassId) (fm : Nat → Nat → Int32) (hI : MI mi fm) (p1 : Int32) : Met l yX12_settled (.code yX12_settled cX12_settled 2 (some .int) :: wsGB) ({ frames := 7, cells := 0, slots := 0, locals := 165 }) (va_Pc [.ref hm, .int p1] (fun U => U.heap.size = sz ∧ va_P (dC, dI) vwCl (MW hm mi mr km fm) U.heap ∧ va_K (dC, dI) vwCl (MT km) U ∧ va_D (fun _ => True) (MW hm mi mr km fm))) (va_Qi (fun (r : Int32) (u : Unit) => True) (fun _ t => MB dC dI hm mi mr km fm sz (fun v f => styM mi fm v f) t) (va_A (MW hm mi mr km fm) sz)) 0 0 (va_A (MW hm mi mr km fm) sz) := by
  refine gz_mono (sX12_settled l dC dI sz hm mi mr km (fm 14) (fm 15) (fm 16) (fm 17) (fm 18) (fm 19) (fm 4) (fm 7) (fm 2) (fm 5) (fm 6) (fm 3) (fm 0) (fm 1) (fm 20) (fm 8) (fm 10) (fm 11) (fm 9) (fm 12) (fm 13) (fm 21) (fm 22) (fm 23) p1 hI.1 hI.2.1 hI.2.2.1 hI.2.2.2.1 hI.2.2.2.2.1 hI.2.2.2.2.2.1 hI.2.2.2.2.2.2.1 hI.2.2.2.2.2.2.2.1 hI.2.2.2.2.2.2.2.2.1 hI.2.2.2.2.2.2.2.2.2.1 hI.2.2.2.2.2.2.2.2.2.2.1 hI.2.2.2.2.2.2.2.2.2.2.2.1 hI.2.2.2.2.2.2.2.2.2.2.2.2.2.1 hI.2.2.2.2.2.2.2.2.2.2.2.2.2.2.1 hI.2.2.2.2.2.2.2.2.2.2.2.2.2.2.2.1 hI.2.2.2.2.2.2.2.2.2.2.2.2.2.2.2.2.1 hI.2.2.2.2.2.2.2.2.2.2.2.2.2.2.2.2.2.1 hI.2.2.2.2.2.2.2.2.2.2.2.2.2.2.2.2.2.2.1 hI.2.2.2.2.2.2.2.2.2.2.2.2.2.2.2.2.2.2.2.2.2.2.2.2.2.2.1 hI.2.2.2.2.2.2.2.2.2.2.2.2.2.2.2.2.2.2.2.2.1 hI.2.2.2.2.2.2.2.2.2.2.2.2.2.2.2.2.2.2.2.2.2.2.2.1 hI.2.2.2.2.2.2.2.2.2.2.2.2.2.2.2.2.2.2.2.1 hI.2.2.2.2.2.2.2.2.2.2.2.2.2.2.2.2.2.2.2.2.2.1 hI.2.2.2.2.2.2.2.2.2.2.2.2.2.2.2.2.2.2.2.2.2.2.1 hI.2.2.2.2.2.2.2.2.2.2.2.2.2.2.2.2.2.2.2.2.2.2.2.2.1 hI.2.2.2.2.2.2.2.2.2.2.2.2.2.2.2.2.2.2.2.2.2.2.2.2.2.1 hI.2.2.2.2.2.2.2.2.2.2.2.2.2.2.2.2.2.2.2.2.2.2.2.2.2.2.2.1) ?_ ?_ ?_
  · rintro args s ⟨rfl, hsz, hP, hK, hD⟩
    exact ⟨rfl, hsz, hP, hK, hD⟩
  · rintro args s o t ⟨rfl, hsz, hP, hK, hD⟩ ⟨⟨r, u, ho, hw, hB⟩, hF⟩
    obtain ⟨w0_37, w0_41, w0_48, w0_49, z1, z2, z3, z4, z5, z6, z15, hB⟩ := hB
    obtain ⟨gw0_37, gw0_41, gz6, hP1, hD1⟩ := hB
    subst hsz
    exact ⟨⟨r, (), ho, trivial, (upd (upd (upd (upd mi 37 w0_37) 41 w0_41) 48 w0_48) 49 w0_49), (updF (updF (updF (updF (updF (updF (updF fm 14 z1) 15 z2) 16 z3) 17 z4) 18 z5) 19 z6) 20 z15), ⟨hI.1, hI.2.1, hI.2.2.1, hI.2.2.2.1, hI.2.2.2.2.1, hI.2.2.2.2.2.1, hI.2.2.2.2.2.2.1, hI.2.2.2.2.2.2.2.1, hI.2.2.2.2.2.2.2.2.1, hI.2.2.2.2.2.2.2.2.2.1, hI.2.2.2.2.2.2.2.2.2.2.1, hI.2.2.2.2.2.2.2.2.2.2.2.1, hI.2.2.2.2.2.2.2.2.2.2.2.2.1, hI.2.2.2.2.2.2.2.2.2.2.2.2.2.1, gw0_37, gw0_41, hI.2.2.2.2.2.2.2.2.2.2.2.2.2.2.2.2.1, hI.2.2.2.2.2.2.2.2.2.2.2.2.2.2.2.2.2.1, hI.2.2.2.2.2.2.2.2.2.2.2.2.2.2.2.2.2.2.1, hI.2.2.2.2.2.2.2.2.2.2.2.2.2.2.2.2.2.2.2.1, hI.2.2.2.2.2.2.2.2.2.2.2.2.2.2.2.2.2.2.2.2.1, hI.2.2.2.2.2.2.2.2.2.2.2.2.2.2.2.2.2.2.2.2.2.1, hI.2.2.2.2.2.2.2.2.2.2.2.2.2.2.2.2.2.2.2.2.2.2.1, hI.2.2.2.2.2.2.2.2.2.2.2.2.2.2.2.2.2.2.2.2.2.2.2.1, hI.2.2.2.2.2.2.2.2.2.2.2.2.2.2.2.2.2.2.2.2.2.2.2.2.1, hI.2.2.2.2.2.2.2.2.2.2.2.2.2.2.2.2.2.2.2.2.2.2.2.2.2.1, gz6, hI.2.2.2.2.2.2.2.2.2.2.2.2.2.2.2.2.2.2.2.2.2.2.2.2.2.2.2.1, hI.2.2.2.2.2.2.2.2.2.2.2.2.2.2.2.2.2.2.2.2.2.2.2.2.2.2.2.2⟩, ⟨rfl, rfl, rfl, rfl, rfl, rfl, rfl, rfl, rfl, rfl, rfl, rfl, rfl, rfl, rfl, rfl, rfl, rfl, rfl, rfl, rfl, rfl, rfl, rfl⟩, hP1, hD1⟩, hF⟩
  · exact fun q h => h
set_option maxHeartbeats 4000000 in
set_option maxRecDepth 100000 in
theorem uX12_due (l : Launch) (dC : Nat → ClassId) (dI : Nat → Nat → Nat) (sz : Nat) (hm : Nat) (mi : Nat → Int32) (mr : Nat → Nat) (km : Nat → ClassId) (fm : Nat → Nat → Int32) (hI : MI mi fm) (p1 : Int32) (p2 : Int32) : Met l yX12_due (.code yX12_due cX12_due 3 (some .int) :: wsGB) ({ frames := 6, cells := 0, slots := 0, locals := 140 }) (va_Pc [.ref hm, .int p1, .int p2] (fun U => U.heap.size = sz ∧ va_P (dC, dI) vwCl (MW hm mi mr km fm) U.heap ∧ va_K (dC, dI) vwCl (MT km) U ∧ va_D (fun _ => True) (MW hm mi mr km fm))) (va_Qi (fun (r : Int32) (u : Unit) => True) (fun _ t => MB dC dI hm mi mr km fm sz (fun v f => styM mi fm v f) t) (va_A (MW hm mi mr km fm) sz)) 0 0 (va_A (MW hm mi mr km fm) sz) := by
  refine gz_mono (sX12_due l dC dI sz hm mi mr km (fm 14) (fm 15) (fm 16) (fm 17) (fm 18) (fm 19) (fm 4) (fm 7) (fm 2) (fm 5) (fm 6) (fm 3) (fm 0) (fm 1) (fm 20) (fm 8) (fm 10) (fm 11) (fm 9) (fm 12) (fm 13) (fm 21) (fm 22) (fm 23) p1 p2 hI.1 hI.2.1 hI.2.2.1 hI.2.2.2.1 hI.2.2.2.2.1 hI.2.2.2.2.2.1 hI.2.2.2.2.2.2.1 hI.2.2.2.2.2.2.2.1 hI.2.2.2.2.2.2.2.2.1 hI.2.2.2.2.2.2.2.2.2.1 hI.2.2.2.2.2.2.2.2.2.2.1 hI.2.2.2.2.2.2.2.2.2.2.2.1 hI.2.2.2.2.2.2.2.2.2.2.2.2.2.1 hI.2.2.2.2.2.2.2.2.2.2.2.2.2.2.1 hI.2.2.2.2.2.2.2.2.2.2.2.2.2.2.2.1 hI.2.2.2.2.2.2.2.2.2.2.2.2.2.2.2.2.1 hI.2.2.2.2.2.2.2.2.2.2.2.2.2.2.2.2.2.1 hI.2.2.2.2.2.2.2.2.2.2.2.2.2.2.2.2.2.2.1 hI.2.2.2.2.2.2.2.2.2.2.2.2.2.2.2.2.2.2.2.2.2.2.2.2.2.2.1 hI.2.2.2.2.2.2.2.2.2.2.2.2.2.2.2.2.2.2.2.2.1 hI.2.2.2.2.2.2.2.2.2.2.2.2.2.2.2.2.2.2.2.2.2.2.2.1 hI.2.2.2.2.2.2.2.2.2.2.2.2.2.2.2.2.2.2.2.1 hI.2.2.2.2.2.2.2.2.2.2.2.2.2.2.2.2.2.2.2.2.2.1 hI.2.2.2.2.2.2.2.2.2.2.2.2.2.2.2.2.2.2.2.2.2.2.1 hI.2.2.2.2.2.2.2.2.2.2.2.2.2.2.2.2.2.2.2.2.2.2.2.2.1 hI.2.2.2.2.2.2.2.2.2.2.2.2.2.2.2.2.2.2.2.2.2.2.2.2.2.1 hI.2.2.2.2.2.2.2.2.2.2.2.2.2.2.2.2.2.2.2.2.2.2.2.2.2.2.2.1) ?_ ?_ ?_
  · rintro args s ⟨rfl, hsz, hP, hK, hD⟩
    exact ⟨rfl, hsz, hP, hK, hD⟩
  · rintro args s o t ⟨rfl, hsz, hP, hK, hD⟩ ⟨⟨r, u, ho, hw, hB⟩, hF⟩
    obtain ⟨w0_37, w0_41, z1, z2, z3, z4, z5, z6, z15, hB⟩ := hB
    obtain ⟨gw0_37, gw0_41, gz6, hP1, hD1⟩ := hB
    subst hsz
    exact ⟨⟨r, (), ho, trivial, (upd (upd mi 37 w0_37) 41 w0_41), (updF (updF (updF (updF (updF (updF (updF fm 14 z1) 15 z2) 16 z3) 17 z4) 18 z5) 19 z6) 20 z15), ⟨hI.1, hI.2.1, hI.2.2.1, hI.2.2.2.1, hI.2.2.2.2.1, hI.2.2.2.2.2.1, hI.2.2.2.2.2.2.1, hI.2.2.2.2.2.2.2.1, hI.2.2.2.2.2.2.2.2.1, hI.2.2.2.2.2.2.2.2.2.1, hI.2.2.2.2.2.2.2.2.2.2.1, hI.2.2.2.2.2.2.2.2.2.2.2.1, hI.2.2.2.2.2.2.2.2.2.2.2.2.1, hI.2.2.2.2.2.2.2.2.2.2.2.2.2.1, gw0_37, gw0_41, hI.2.2.2.2.2.2.2.2.2.2.2.2.2.2.2.2.1, hI.2.2.2.2.2.2.2.2.2.2.2.2.2.2.2.2.2.1, hI.2.2.2.2.2.2.2.2.2.2.2.2.2.2.2.2.2.2.1, hI.2.2.2.2.2.2.2.2.2.2.2.2.2.2.2.2.2.2.2.1, hI.2.2.2.2.2.2.2.2.2.2.2.2.2.2.2.2.2.2.2.2.1, hI.2.2.2.2.2.2.2.2.2.2.2.2.2.2.2.2.2.2.2.2.2.1, hI.2.2.2.2.2.2.2.2.2.2.2.2.2.2.2.2.2.2.2.2.2.2.1, hI.2.2.2.2.2.2.2.2.2.2.2.2.2.2.2.2.2.2.2.2.2.2.2.1, hI.2.2.2.2.2.2.2.2.2.2.2.2.2.2.2.2.2.2.2.2.2.2.2.2.1, hI.2.2.2.2.2.2.2.2.2.2.2.2.2.2.2.2.2.2.2.2.2.2.2.2.2.1, gz6, hI.2.2.2.2.2.2.2.2.2.2.2.2.2.2.2.2.2.2.2.2.2.2.2.2.2.2.2.1, hI.2.2.2.2.2.2.2.2.2.2.2.2.2.2.2.2.2.2.2.2.2.2.2.2.2.2.2.2⟩, ⟨rfl, rfl, rfl, rfl, rfl, rfl, rfl, rfl, rfl, rfl, rfl, rfl, rfl, rfl, rfl, rfl, rfl, rfl, rfl, rfl, rfl, rfl, rfl, rfl⟩, hP1, hD1⟩, hF⟩
  · exact fun q h => h
set_option maxHeartbeats 4000000 in
set_option maxRecDepth 100000 in
theorem uX12_dueSpan (l : Launch) (dC : Nat → ClassId) (dI : Nat → Nat → Nat) (sz : Nat) (hm : Nat) (mi : Nat → Int32) (mr : Nat → Nat) (km : Nat → ClassId) (fm : Nat → Nat → Int32) (hI : MI mi fm) (p1 : Int32) (p2 : Int32) (p3 : Int32) : Met l yX12_dueSpan (.code yX12_dueSpan cX12_dueSpan 4 (some .int) :: wsGB) ({ frames := 8, cells := 0, slots := 0, locals := 196 }) (va_Pc [.ref hm, .int p1, .int p2, .int p3] (fun U => U.heap.size = sz ∧ va_P (dC, dI) vwCl (MW hm mi mr km fm) U.heap ∧ va_K (dC, dI) vwCl (MT km) U ∧ va_D (fun _ => True) (MW hm mi mr km fm))) (va_Qi (fun (r : Int32) (u : Unit) => True) (fun _ t => MB dC dI hm mi mr km fm sz (fun v f => styM mi fm v f) t) (va_A (MW hm mi mr km fm) sz)) 0 0 (va_A (MW hm mi mr km fm) sz) := by
  refine gz_mono (sX12_dueSpan l dC dI sz hm mi mr km (fm 14) (fm 15) (fm 16) (fm 17) (fm 18) (fm 19) (fm 4) (fm 7) (fm 2) (fm 5) (fm 6) (fm 3) (fm 0) (fm 1) (fm 8) (fm 10) (fm 11) (fm 9) (fm 12) (fm 13) (fm 20) (fm 21) (fm 22) (fm 23) p1 p2 p3 hI.1 hI.2.1 hI.2.2.1 hI.2.2.2.1 hI.2.2.2.2.1 hI.2.2.2.2.2.1 hI.2.2.2.2.2.2.1 hI.2.2.2.2.2.2.2.1 hI.2.2.2.2.2.2.2.2.1 hI.2.2.2.2.2.2.2.2.2.1 hI.2.2.2.2.2.2.2.2.2.2.1 hI.2.2.2.2.2.2.2.2.2.2.2.1 hI.2.2.2.2.2.2.2.2.2.2.2.2.2.1 hI.2.2.2.2.2.2.2.2.2.2.2.2.2.2.1 hI.2.2.2.2.2.2.2.2.2.2.2.2.2.2.2.1 hI.2.2.2.2.2.2.2.2.2.2.2.2.2.2.2.2.1 hI.2.2.2.2.2.2.2.2.2.2.2.2.2.2.2.2.2.1 hI.2.2.2.2.2.2.2.2.2.2.2.2.2.2.2.2.2.2.1 hI.2.2.2.2.2.2.2.2.2.2.2.2.2.2.2.2.2.2.2.2.2.2.2.2.2.2.1 hI.2.2.2.2.2.2.2.2.2.2.2.2.2.2.2.2.2.2.2.2.1 hI.2.2.2.2.2.2.2.2.2.2.2.2.2.2.2.2.2.2.2.2.2.2.2.1 hI.2.2.2.2.2.2.2.2.2.2.2.2.2.2.2.2.2.2.2.1 hI.2.2.2.2.2.2.2.2.2.2.2.2.2.2.2.2.2.2.2.2.2.1 hI.2.2.2.2.2.2.2.2.2.2.2.2.2.2.2.2.2.2.2.2.2.2.1 hI.2.2.2.2.2.2.2.2.2.2.2.2.2.2.2.2.2.2.2.2.2.2.2.2.1 hI.2.2.2.2.2.2.2.2.2.2.2.2.2.2.2.2.2.2.2.2.2.2.2.2.2.1 hI.2.2.2.2.2.2.2.2.2.2.2.2.2.2.2.2.2.2.2.2.2.2.2.2.2.2.2.1) ?_ ?_ ?_
  · rintro args s ⟨rfl, hsz, hP, hK, hD⟩
    exact ⟨rfl, hsz, hP, hK, hD⟩
  · rintro args s o t ⟨rfl, hsz, hP, hK, hD⟩ ⟨⟨r, u, ho, hw, hB⟩, hF⟩
    obtain ⟨w0_37, w0_41, z1, z2, z3, z4, z5, z6, hB⟩ := hB
    obtain ⟨gw0_37, gw0_41, gz6, hP1, hD1⟩ := hB
    subst hsz
    exact ⟨⟨r, (), ho, trivial, (upd (upd mi 37 w0_37) 41 w0_41), (updF (updF (updF (updF (updF (updF fm 14 z1) 15 z2) 16 z3) 17 z4) 18 z5) 19 z6), ⟨hI.1, hI.2.1, hI.2.2.1, hI.2.2.2.1, hI.2.2.2.2.1, hI.2.2.2.2.2.1, hI.2.2.2.2.2.2.1, hI.2.2.2.2.2.2.2.1, hI.2.2.2.2.2.2.2.2.1, hI.2.2.2.2.2.2.2.2.2.1, hI.2.2.2.2.2.2.2.2.2.2.1, hI.2.2.2.2.2.2.2.2.2.2.2.1, hI.2.2.2.2.2.2.2.2.2.2.2.2.1, hI.2.2.2.2.2.2.2.2.2.2.2.2.2.1, gw0_37, gw0_41, hI.2.2.2.2.2.2.2.2.2.2.2.2.2.2.2.2.1, hI.2.2.2.2.2.2.2.2.2.2.2.2.2.2.2.2.2.1, hI.2.2.2.2.2.2.2.2.2.2.2.2.2.2.2.2.2.2.1, hI.2.2.2.2.2.2.2.2.2.2.2.2.2.2.2.2.2.2.2.1, hI.2.2.2.2.2.2.2.2.2.2.2.2.2.2.2.2.2.2.2.2.1, hI.2.2.2.2.2.2.2.2.2.2.2.2.2.2.2.2.2.2.2.2.2.1, hI.2.2.2.2.2.2.2.2.2.2.2.2.2.2.2.2.2.2.2.2.2.2.1, hI.2.2.2.2.2.2.2.2.2.2.2.2.2.2.2.2.2.2.2.2.2.2.2.1, hI.2.2.2.2.2.2.2.2.2.2.2.2.2.2.2.2.2.2.2.2.2.2.2.2.1, hI.2.2.2.2.2.2.2.2.2.2.2.2.2.2.2.2.2.2.2.2.2.2.2.2.2.1, gz6, hI.2.2.2.2.2.2.2.2.2.2.2.2.2.2.2.2.2.2.2.2.2.2.2.2.2.2.2.1, hI.2.2.2.2.2.2.2.2.2.2.2.2.2.2.2.2.2.2.2.2.2.2.2.2.2.2.2.2⟩, ⟨rfl, rfl, rfl, rfl, rfl, rfl, rfl, rfl, rfl, rfl, rfl, rfl, rfl, rfl, rfl, rfl, rfl, rfl, rfl, rfl, rfl, rfl, rfl, rfl⟩, hP1, hD1⟩, hF⟩
  · exact fun q h => h
set_option maxHeartbeats 4000000 in
set_option maxRecDepth 100000 in
theorem uX12_dueOn (l : Launch) (dC : Nat → ClassId) (dI : Nat → Nat → Nat) (sz : Nat) (hm : Nat) (mi : Nat → Int32) (mr : Nat → Nat) (km : Nat → ClassId) (fm : Nat → Nat → Int32) (hI : MI mi fm) (p1 : Int32) (p2 : Int32) (p3 : Int32) : Met l yX12_dueOn (.code yX12_dueOn cX12_dueOn 4 (some .int) :: wsGB) ({ frames := 7, cells := 0, slots := 0, locals := 170 }) (va_Pc [.ref hm, .int p1, .int p2, .int p3] (fun U => U.heap.size = sz ∧ va_P (dC, dI) vwCl (MW hm mi mr km fm) U.heap ∧ va_K (dC, dI) vwCl (MT km) U ∧ va_D (fun _ => True) (MW hm mi mr km fm))) (va_Qi (fun (r : Int32) (u : Unit) => True) (fun _ t => MB dC dI hm mi mr km fm sz (fun v f => styM mi fm v f) t) (va_A (MW hm mi mr km fm) sz)) 0 0 (va_A (MW hm mi mr km fm) sz) := by
  refine gz_mono (sX12_dueOn l dC dI sz hm mi mr km (fm 14) (fm 15) (fm 16) (fm 17) (fm 18) (fm 19) (fm 4) (fm 7) (fm 2) (fm 5) (fm 6) (fm 3) (fm 0) (fm 1) (fm 8) (fm 10) (fm 11) (fm 9) (fm 12) (fm 13) (fm 20) (fm 21) (fm 22) (fm 23) p1 p2 p3 hI.1 hI.2.1 hI.2.2.1 hI.2.2.2.1 hI.2.2.2.2.1 hI.2.2.2.2.2.1 hI.2.2.2.2.2.2.1 hI.2.2.2.2.2.2.2.1 hI.2.2.2.2.2.2.2.2.1 hI.2.2.2.2.2.2.2.2.2.1 hI.2.2.2.2.2.2.2.2.2.2.1 hI.2.2.2.2.2.2.2.2.2.2.2.1 hI.2.2.2.2.2.2.2.2.2.2.2.2.2.1 hI.2.2.2.2.2.2.2.2.2.2.2.2.2.2.1 hI.2.2.2.2.2.2.2.2.2.2.2.2.2.2.2.1 hI.2.2.2.2.2.2.2.2.2.2.2.2.2.2.2.2.1 hI.2.2.2.2.2.2.2.2.2.2.2.2.2.2.2.2.2.1 hI.2.2.2.2.2.2.2.2.2.2.2.2.2.2.2.2.2.2.1 hI.2.2.2.2.2.2.2.2.2.2.2.2.2.2.2.2.2.2.2.2.2.2.2.2.2.2.1 hI.2.2.2.2.2.2.2.2.2.2.2.2.2.2.2.2.2.2.2.2.1 hI.2.2.2.2.2.2.2.2.2.2.2.2.2.2.2.2.2.2.2.2.2.2.2.1 hI.2.2.2.2.2.2.2.2.2.2.2.2.2.2.2.2.2.2.2.1 hI.2.2.2.2.2.2.2.2.2.2.2.2.2.2.2.2.2.2.2.2.2.1 hI.2.2.2.2.2.2.2.2.2.2.2.2.2.2.2.2.2.2.2.2.2.2.1 hI.2.2.2.2.2.2.2.2.2.2.2.2.2.2.2.2.2.2.2.2.2.2.2.2.1 hI.2.2.2.2.2.2.2.2.2.2.2.2.2.2.2.2.2.2.2.2.2.2.2.2.2.1 hI.2.2.2.2.2.2.2.2.2.2.2.2.2.2.2.2.2.2.2.2.2.2.2.2.2.2.2.1) ?_ ?_ ?_
  · rintro args s ⟨rfl, hsz, hP, hK, hD⟩
    exact ⟨rfl, hsz, hP, hK, hD⟩
  · rintro args s o t ⟨rfl, hsz, hP, hK, hD⟩ ⟨⟨r, u, ho, hw, hB⟩, hF⟩
    obtain ⟨w0_37, w0_41, z1, z2, z3, z4, z5, z6, hB⟩ := hB
    obtain ⟨gw0_37, gw0_41, gz6, hP1, hD1⟩ := hB
    subst hsz
    exact ⟨⟨r, (), ho, trivial, (upd (upd mi 37 w0_37) 41 w0_41), (updF (updF (updF (updF (updF (updF fm 14 z1) 15 z2) 16 z3) 17 z4) 18 z5) 19 z6), ⟨hI.1, hI.2.1, hI.2.2.1, hI.2.2.2.1, hI.2.2.2.2.1, hI.2.2.2.2.2.1, hI.2.2.2.2.2.2.1, hI.2.2.2.2.2.2.2.1, hI.2.2.2.2.2.2.2.2.1, hI.2.2.2.2.2.2.2.2.2.1, hI.2.2.2.2.2.2.2.2.2.2.1, hI.2.2.2.2.2.2.2.2.2.2.2.1, hI.2.2.2.2.2.2.2.2.2.2.2.2.1, hI.2.2.2.2.2.2.2.2.2.2.2.2.2.1, gw0_37, gw0_41, hI.2.2.2.2.2.2.2.2.2.2.2.2.2.2.2.2.1, hI.2.2.2.2.2.2.2.2.2.2.2.2.2.2.2.2.2.1, hI.2.2.2.2.2.2.2.2.2.2.2.2.2.2.2.2.2.2.1, hI.2.2.2.2.2.2.2.2.2.2.2.2.2.2.2.2.2.2.2.1, hI.2.2.2.2.2.2.2.2.2.2.2.2.2.2.2.2.2.2.2.2.1, hI.2.2.2.2.2.2.2.2.2.2.2.2.2.2.2.2.2.2.2.2.2.1, hI.2.2.2.2.2.2.2.2.2.2.2.2.2.2.2.2.2.2.2.2.2.2.1, hI.2.2.2.2.2.2.2.2.2.2.2.2.2.2.2.2.2.2.2.2.2.2.2.1, hI.2.2.2.2.2.2.2.2.2.2.2.2.2.2.2.2.2.2.2.2.2.2.2.2.1, hI.2.2.2.2.2.2.2.2.2.2.2.2.2.2.2.2.2.2.2.2.2.2.2.2.2.1, gz6, hI.2.2.2.2.2.2.2.2.2.2.2.2.2.2.2.2.2.2.2.2.2.2.2.2.2.2.2.1, hI.2.2.2.2.2.2.2.2.2.2.2.2.2.2.2.2.2.2.2.2.2.2.2.2.2.2.2.2⟩, ⟨rfl, rfl, rfl, rfl, rfl, rfl, rfl, rfl, rfl, rfl, rfl, rfl, rfl, rfl, rfl, rfl, rfl, rfl, rfl, rfl, rfl, rfl, rfl, rfl⟩, hP1, hD1⟩, hF⟩
  · exact fun q h => h
set_option maxHeartbeats 4000000 in
set_option maxRecDepth 100000 in
theorem uX12_redated (l : Launch) (dC : Nat → ClassId) (dI : Nat → Nat → Nat) (sz : Nat) (hm : Nat) (mi : Nat → Int32) (mr : Nat → Nat) (km : Nat → ClassId) (fm : Nat → Nat → Int32) (hI : MI mi fm) (p1 : Int32) : Met l yX12_redated (.code yX12_redated cX12_redated 2 (some .int) :: wsGB) ({ frames := 7, cells := 0, slots := 0, locals := 165 }) (va_Pc [.ref hm, .int p1] (fun U => U.heap.size = sz ∧ va_P (dC, dI) vwCl (MW hm mi mr km fm) U.heap ∧ va_K (dC, dI) vwCl (MT km) U ∧ va_D (fun _ => True) (MW hm mi mr km fm))) (va_Qi (fun (r : Int32) (u : Unit) => True) (fun _ t => MB dC dI hm mi mr km fm sz (fun v f => styM mi fm v f) t) (va_A (MW hm mi mr km fm) sz)) 0 0 (va_A (MW hm mi mr km fm) sz) := by
  refine gz_mono (sX12_redated l dC dI sz hm mi mr km (fm 14) (fm 15) (fm 16) (fm 17) (fm 18) (fm 19) (fm 4) (fm 7) (fm 2) (fm 5) (fm 6) (fm 3) (fm 0) (fm 1) (fm 20) (fm 8) (fm 10) (fm 11) (fm 9) (fm 12) (fm 13) (fm 21) (fm 22) (fm 23) p1 hI.1 hI.2.1 hI.2.2.1 hI.2.2.2.1 hI.2.2.2.2.1 hI.2.2.2.2.2.1 hI.2.2.2.2.2.2.1 hI.2.2.2.2.2.2.2.1 hI.2.2.2.2.2.2.2.2.1 hI.2.2.2.2.2.2.2.2.2.1 hI.2.2.2.2.2.2.2.2.2.2.1 hI.2.2.2.2.2.2.2.2.2.2.2.1 hI.2.2.2.2.2.2.2.2.2.2.2.2.2.1 hI.2.2.2.2.2.2.2.2.2.2.2.2.2.2.1 hI.2.2.2.2.2.2.2.2.2.2.2.2.2.2.2.1 hI.2.2.2.2.2.2.2.2.2.2.2.2.2.2.2.2.1 hI.2.2.2.2.2.2.2.2.2.2.2.2.2.2.2.2.2.1 hI.2.2.2.2.2.2.2.2.2.2.2.2.2.2.2.2.2.2.1 hI.2.2.2.2.2.2.2.2.2.2.2.2.2.2.2.2.2.2.2.2.2.2.2.2.2.2.1 hI.2.2.2.2.2.2.2.2.2.2.2.2.2.2.2.2.2.2.2.2.1 hI.2.2.2.2.2.2.2.2.2.2.2.2.2.2.2.2.2.2.2.2.2.2.2.1 hI.2.2.2.2.2.2.2.2.2.2.2.2.2.2.2.2.2.2.2.1 hI.2.2.2.2.2.2.2.2.2.2.2.2.2.2.2.2.2.2.2.2.2.1 hI.2.2.2.2.2.2.2.2.2.2.2.2.2.2.2.2.2.2.2.2.2.2.1 hI.2.2.2.2.2.2.2.2.2.2.2.2.2.2.2.2.2.2.2.2.2.2.2.2.1 hI.2.2.2.2.2.2.2.2.2.2.2.2.2.2.2.2.2.2.2.2.2.2.2.2.2.1 hI.2.2.2.2.2.2.2.2.2.2.2.2.2.2.2.2.2.2.2.2.2.2.2.2.2.2.2.1) ?_ ?_ ?_
  · rintro args s ⟨rfl, hsz, hP, hK, hD⟩
    exact ⟨rfl, hsz, hP, hK, hD⟩
  · rintro args s o t ⟨rfl, hsz, hP, hK, hD⟩ ⟨⟨r, u, ho, hw, hB⟩, hF⟩
    obtain ⟨w0_37, w0_41, w0_48, w0_49, z1, z2, z3, z4, z5, z6, z15, hB⟩ := hB
    obtain ⟨gw0_37, gw0_41, gz6, hP1, hD1⟩ := hB
    subst hsz
    exact ⟨⟨r, (), ho, trivial, (upd (upd (upd (upd mi 37 w0_37) 41 w0_41) 48 w0_48) 49 w0_49), (updF (updF (updF (updF (updF (updF (updF fm 14 z1) 15 z2) 16 z3) 17 z4) 18 z5) 19 z6) 20 z15), ⟨hI.1, hI.2.1, hI.2.2.1, hI.2.2.2.1, hI.2.2.2.2.1, hI.2.2.2.2.2.1, hI.2.2.2.2.2.2.1, hI.2.2.2.2.2.2.2.1, hI.2.2.2.2.2.2.2.2.1, hI.2.2.2.2.2.2.2.2.2.1, hI.2.2.2.2.2.2.2.2.2.2.1, hI.2.2.2.2.2.2.2.2.2.2.2.1, hI.2.2.2.2.2.2.2.2.2.2.2.2.1, hI.2.2.2.2.2.2.2.2.2.2.2.2.2.1, gw0_37, gw0_41, hI.2.2.2.2.2.2.2.2.2.2.2.2.2.2.2.2.1, hI.2.2.2.2.2.2.2.2.2.2.2.2.2.2.2.2.2.1, hI.2.2.2.2.2.2.2.2.2.2.2.2.2.2.2.2.2.2.1, hI.2.2.2.2.2.2.2.2.2.2.2.2.2.2.2.2.2.2.2.1, hI.2.2.2.2.2.2.2.2.2.2.2.2.2.2.2.2.2.2.2.2.1, hI.2.2.2.2.2.2.2.2.2.2.2.2.2.2.2.2.2.2.2.2.2.1, hI.2.2.2.2.2.2.2.2.2.2.2.2.2.2.2.2.2.2.2.2.2.2.1, hI.2.2.2.2.2.2.2.2.2.2.2.2.2.2.2.2.2.2.2.2.2.2.2.1, hI.2.2.2.2.2.2.2.2.2.2.2.2.2.2.2.2.2.2.2.2.2.2.2.2.1, hI.2.2.2.2.2.2.2.2.2.2.2.2.2.2.2.2.2.2.2.2.2.2.2.2.2.1, gz6, hI.2.2.2.2.2.2.2.2.2.2.2.2.2.2.2.2.2.2.2.2.2.2.2.2.2.2.2.1, hI.2.2.2.2.2.2.2.2.2.2.2.2.2.2.2.2.2.2.2.2.2.2.2.2.2.2.2.2⟩, ⟨rfl, rfl, rfl, rfl, rfl, rfl, rfl, rfl, rfl, rfl, rfl, rfl, rfl, rfl, rfl, rfl, rfl, rfl, rfl, rfl, rfl, rfl, rfl, rfl⟩, hP1, hD1⟩, hF⟩
  · exact fun q h => h
set_option maxHeartbeats 4000000 in
set_option maxRecDepth 100000 in
theorem uX12_longer (l : Launch) (dC : Nat → ClassId) (dI : Nat → Nat → Nat) (sz : Nat) (hm : Nat) (mi : Nat → Int32) (mr : Nat → Nat) (km : Nat → ClassId) (fm : Nat → Nat → Int32) (hI : MI mi fm) (p1 : Int32) (p2 : Int32) (p3 : Int32) : Met l yX12_longer (.code yX12_longer cX12_longer 8 (some .int) :: wsGB) ({ frames := 9, cells := 0, slots := 0, locals := 220 }) (va_Pc [.ref hm, .int p1, .int p2, .int p3] (fun U => U.heap.size = sz ∧ va_P (dC, dI) vwCl (MW hm mi mr km fm) U.heap ∧ va_K (dC, dI) vwCl (MT km) U ∧ va_D (fun _ => True) (MW hm mi mr km fm))) (va_Qi (fun (r : Int32) (u : Unit) => True) (fun _ t => MB dC dI hm mi mr km fm sz (fun v f => styM mi fm v f) t) (va_A (MW hm mi mr km fm) sz)) 0 0 (va_A (MW hm mi mr km fm) sz) := by
  refine gz_mono (sX12_longer l dC dI sz hm mi mr km (fm 14) (fm 15) (fm 16) (fm 17) (fm 18) (fm 19) (fm 4) (fm 7) (fm 2) (fm 5) (fm 6) (fm 3) (fm 0) (fm 1) (fm 8) (fm 10) (fm 11) (fm 9) (fm 12) (fm 13) (fm 20) (fm 21) (fm 22) (fm 23) p1 p2 p3 hI.1 hI.2.1 hI.2.2.1 hI.2.2.2.1 hI.2.2.2.2.1 hI.2.2.2.2.2.1 hI.2.2.2.2.2.2.1 hI.2.2.2.2.2.2.2.1 hI.2.2.2.2.2.2.2.2.1 hI.2.2.2.2.2.2.2.2.2.1 hI.2.2.2.2.2.2.2.2.2.2.1 hI.2.2.2.2.2.2.2.2.2.2.2.1 hI.2.2.2.2.2.2.2.2.2.2.2.2.2.1 hI.2.2.2.2.2.2.2.2.2.2.2.2.2.2.1 hI.2.2.2.2.2.2.2.2.2.2.2.2.2.2.2.1 hI.2.2.2.2.2.2.2.2.2.2.2.2.2.2.2.2.1 hI.2.2.2.2.2.2.2.2.2.2.2.2.2.2.2.2.2.1 hI.2.2.2.2.2.2.2.2.2.2.2.2.2.2.2.2.2.2.1 hI.2.2.2.2.2.2.2.2.2.2.2.2.2.2.2.2.2.2.2.2.2.2.2.2.2.2.1 hI.2.2.2.2.2.2.2.2.2.2.2.2.2.2.2.2.2.2.2.2.1 hI.2.2.2.2.2.2.2.2.2.2.2.2.2.2.2.2.2.2.2.2.2.2.2.1 hI.2.2.2.2.2.2.2.2.2.2.2.2.2.2.2.2.2.2.2.1 hI.2.2.2.2.2.2.2.2.2.2.2.2.2.2.2.2.2.2.2.2.2.1 hI.2.2.2.2.2.2.2.2.2.2.2.2.2.2.2.2.2.2.2.2.2.2.1 hI.2.2.2.2.2.2.2.2.2.2.2.2.2.2.2.2.2.2.2.2.2.2.2.2.1 hI.2.2.2.2.2.2.2.2.2.2.2.2.2.2.2.2.2.2.2.2.2.2.2.2.2.1 hI.2.2.2.2.2.2.2.2.2.2.2.2.2.2.2.2.2.2.2.2.2.2.2.2.2.2.2.1) ?_ ?_ ?_
  · rintro args s ⟨rfl, hsz, hP, hK, hD⟩
    exact ⟨rfl, hsz, hP, hK, hD⟩
  · rintro args s o t ⟨rfl, hsz, hP, hK, hD⟩ ⟨⟨r, u, ho, hw, hB⟩, hF⟩
    obtain ⟨w0_37, w0_41, w0_50, w0_51, z1, z2, z3, z4, z5, z6, hB⟩ := hB
    obtain ⟨gw0_37, gw0_41, gw0_50, gw0_51, gz6, hP1, hD1⟩ := hB
    subst hsz
    exact ⟨⟨r, (), ho, trivial, (upd (upd (upd (upd mi 37 w0_37) 41 w0_41) 50 w0_50) 51 w0_51), (updF (updF (updF (updF (updF (updF fm 14 z1) 15 z2) 16 z3) 17 z4) 18 z5) 19 z6), ⟨hI.1, hI.2.1, hI.2.2.1, hI.2.2.2.1, hI.2.2.2.2.1, hI.2.2.2.2.2.1, hI.2.2.2.2.2.2.1, hI.2.2.2.2.2.2.2.1, hI.2.2.2.2.2.2.2.2.1, hI.2.2.2.2.2.2.2.2.2.1, hI.2.2.2.2.2.2.2.2.2.2.1, hI.2.2.2.2.2.2.2.2.2.2.2.1, hI.2.2.2.2.2.2.2.2.2.2.2.2.1, hI.2.2.2.2.2.2.2.2.2.2.2.2.2.1, gw0_37, gw0_41, gw0_50, gw0_51, hI.2.2.2.2.2.2.2.2.2.2.2.2.2.2.2.2.2.2.1, hI.2.2.2.2.2.2.2.2.2.2.2.2.2.2.2.2.2.2.2.1, hI.2.2.2.2.2.2.2.2.2.2.2.2.2.2.2.2.2.2.2.2.1, hI.2.2.2.2.2.2.2.2.2.2.2.2.2.2.2.2.2.2.2.2.2.1, hI.2.2.2.2.2.2.2.2.2.2.2.2.2.2.2.2.2.2.2.2.2.2.1, hI.2.2.2.2.2.2.2.2.2.2.2.2.2.2.2.2.2.2.2.2.2.2.2.1, hI.2.2.2.2.2.2.2.2.2.2.2.2.2.2.2.2.2.2.2.2.2.2.2.2.1, hI.2.2.2.2.2.2.2.2.2.2.2.2.2.2.2.2.2.2.2.2.2.2.2.2.2.1, gz6, hI.2.2.2.2.2.2.2.2.2.2.2.2.2.2.2.2.2.2.2.2.2.2.2.2.2.2.2.1, hI.2.2.2.2.2.2.2.2.2.2.2.2.2.2.2.2.2.2.2.2.2.2.2.2.2.2.2.2⟩, ⟨rfl, rfl, rfl, rfl, rfl, rfl, rfl, rfl, rfl, rfl, rfl, rfl, rfl, rfl, rfl, rfl, rfl, rfl, rfl, rfl, rfl, rfl, rfl, rfl⟩, hP1, hD1⟩, hF⟩
  · exact fun q h => h
set_option maxHeartbeats 4000000 in
set_option maxRecDepth 100000 in
theorem uX12_own (l : Launch) (dC : Nat → ClassId) (dI : Nat → Nat → Nat) (sz : Nat) (hm : Nat) (mi : Nat → Int32) (mr : Nat → Nat) (km : Nat → ClassId) (fm : Nat → Nat → Int32) (hI : MI mi fm) (p1 : Int32) (p2 : Int32) (p3 : Int32) : Met l yX12_own (.code yX12_own cX12_own 4 (some .int) :: wsGB) ({ frames := 7, cells := 0, slots := 0, locals := 162 }) (va_Pc [.ref hm, .int p1, .int p2, .int p3] (fun U => U.heap.size = sz ∧ va_P (dC, dI) vwCl (MW hm mi mr km fm) U.heap ∧ va_K (dC, dI) vwCl (MT km) U ∧ va_D (fun _ => True) (MW hm mi mr km fm))) (va_Qi (fun (r : Int32) (u : Unit) => True) (fun _ t => MB dC dI hm mi mr km fm sz (fun v f => styM mi fm v f) t) (va_A (MW hm mi mr km fm) sz)) 0 0 (va_A (MW hm mi mr km fm) sz) := by
  refine gz_mono (sX12_own l dC dI sz hm mi mr km (fm 14) (fm 15) (fm 16) (fm 17) (fm 18) (fm 19) (fm 4) (fm 7) (fm 2) (fm 5) (fm 6) (fm 3) (fm 0) (fm 1) (fm 20) (fm 8) (fm 9) (fm 10) (fm 11) (fm 12) (fm 13) (fm 21) (fm 22) (fm 23) p1 p2 p3 hI.1 hI.2.1 hI.2.2.1 hI.2.2.2.1 hI.2.2.2.2.1 hI.2.2.2.2.2.1 hI.2.2.2.2.2.2.1 hI.2.2.2.2.2.2.2.1 hI.2.2.2.2.2.2.2.2.1 hI.2.2.2.2.2.2.2.2.2.1 hI.2.2.2.2.2.2.2.2.2.2.1 hI.2.2.2.2.2.2.2.2.2.2.2.1 hI.2.2.2.2.2.2.2.2.2.2.2.2.2.1 hI.2.2.2.2.2.2.2.2.2.2.2.2.2.2.1 hI.2.2.2.2.2.2.2.2.2.2.2.2.2.2.2.1 hI.2.2.2.2.2.2.2.2.2.2.2.2.2.2.2.2.1 hI.2.2.2.2.2.2.2.2.2.2.2.2.2.2.2.2.2.1 hI.2.2.2.2.2.2.2.2.2.2.2.2.2.2.2.2.2.2.1 hI.2.2.2.2.2.2.2.2.2.2.2.2.2.2.2.2.2.2.2.2.2.2.2.2.2.2.1 hI.2.2.2.2.2.2.2.2.2.2.2.2.2.2.2.2.2.2.2.2.1 hI.2.2.2.2.2.2.2.2.2.2.2.2.2.2.2.2.2.2.2.2.2.2.2.1 hI.2.2.2.2.2.2.2.2.2.2.2.2.2.2.2.2.2.2.2.1 hI.2.2.2.2.2.2.2.2.2.2.2.2.2.2.2.2.2.2.2.2.2.1 hI.2.2.2.2.2.2.2.2.2.2.2.2.2.2.2.2.2.2.2.2.2.2.1) ?_ ?_ ?_
  · rintro args s ⟨rfl, hsz, hP, hK, hD⟩
    exact ⟨rfl, hsz, hP, hK, hD⟩
  · rintro args s o t ⟨rfl, hsz, hP, hK, hD⟩ ⟨⟨r, u, ho, hw, hB⟩, hF⟩
    obtain ⟨w0_37, w0_41, w0_42, z1, z2, z3, z4, z5, z6, z15, hB⟩ := hB
    obtain ⟨gw0_37, gw0_41, gz6, hP1, hD1⟩ := hB
    subst hsz
    exact ⟨⟨r, (), ho, trivial, (upd (upd (upd mi 37 w0_37) 41 w0_41) 42 w0_42), (updF (updF (updF (updF (updF (updF (updF fm 14 z1) 15 z2) 16 z3) 17 z4) 18 z5) 19 z6) 20 z15), ⟨hI.1, hI.2.1, hI.2.2.1, hI.2.2.2.1, hI.2.2.2.2.1, hI.2.2.2.2.2.1, hI.2.2.2.2.2.2.1, hI.2.2.2.2.2.2.2.1, hI.2.2.2.2.2.2.2.2.1, hI.2.2.2.2.2.2.2.2.2.1, hI.2.2.2.2.2.2.2.2.2.2.1, hI.2.2.2.2.2.2.2.2.2.2.2.1, hI.2.2.2.2.2.2.2.2.2.2.2.2.1, hI.2.2.2.2.2.2.2.2.2.2.2.2.2.1, gw0_37, gw0_41, hI.2.2.2.2.2.2.2.2.2.2.2.2.2.2.2.2.1, hI.2.2.2.2.2.2.2.2.2.2.2.2.2.2.2.2.2.1, hI.2.2.2.2.2.2.2.2.2.2.2.2.2.2.2.2.2.2.1, hI.2.2.2.2.2.2.2.2.2.2.2.2.2.2.2.2.2.2.2.1, hI.2.2.2.2.2.2.2.2.2.2.2.2.2.2.2.2.2.2.2.2.1, hI.2.2.2.2.2.2.2.2.2.2.2.2.2.2.2.2.2.2.2.2.2.1, hI.2.2.2.2.2.2.2.2.2.2.2.2.2.2.2.2.2.2.2.2.2.2.1, hI.2.2.2.2.2.2.2.2.2.2.2.2.2.2.2.2.2.2.2.2.2.2.2.1, hI.2.2.2.2.2.2.2.2.2.2.2.2.2.2.2.2.2.2.2.2.2.2.2.2.1, hI.2.2.2.2.2.2.2.2.2.2.2.2.2.2.2.2.2.2.2.2.2.2.2.2.2.1, gz6, hI.2.2.2.2.2.2.2.2.2.2.2.2.2.2.2.2.2.2.2.2.2.2.2.2.2.2.2.1, hI.2.2.2.2.2.2.2.2.2.2.2.2.2.2.2.2.2.2.2.2.2.2.2.2.2.2.2.2⟩, ⟨rfl, rfl, rfl, rfl, rfl, rfl, rfl, rfl, rfl, rfl, rfl, rfl, rfl, rfl, rfl, rfl, rfl, rfl, rfl, rfl, rfl, rfl, rfl, rfl⟩, hP1, hD1⟩, hF⟩
  · exact fun q h => h
set_option maxHeartbeats 4000000 in
set_option maxRecDepth 100000 in
theorem uX12_apart (l : Launch) (dC : Nat → ClassId) (dI : Nat → Nat → Nat) (sz : Nat) (hm : Nat) (mi : Nat → Int32) (mr : Nat → Nat) (km : Nat → ClassId) (fm : Nat → Nat → Int32) (hI : MI mi fm) (p1 : Int32) (p2 : Int32) (p3 : Int32) : Met l yX12_apart (.code yX12_apart cX12_apart 4 (some .int) :: wsGB) ({ frames := 7, cells := 0, slots := 0, locals := 162 }) (va_Pc [.ref hm, .int p1, .int p2, .int p3] (fun U => U.heap.size = sz ∧ va_P (dC, dI) vwCl (MW hm mi mr km fm) U.heap ∧ va_K (dC, dI) vwCl (MT km) U ∧ va_D (fun _ => True) (MW hm mi mr km fm))) (va_Qi (fun (r : Int32) (u : Unit) => True) (fun _ t => MB dC dI hm mi mr km fm sz (fun v f => styM mi fm v f) t) (va_A (MW hm mi mr km fm) sz)) 0 0 (va_A (MW hm mi mr km fm) sz) := by
  refine gz_mono (sX12_apart l dC dI sz hm mi mr km (fm 14) (fm 15) (fm 16) (fm 17) (fm 18) (fm 19) (fm 4) (fm 7) (fm 2) (fm 5) (fm 6) (fm 3) (fm 0) (fm 1) (fm 20) (fm 21) (fm 8) (fm 9) (fm 10) (fm 11) (fm 12) (fm 13) (fm 22) (fm 23) p1 p2 p3 hI.1 hI.2.1 hI.2.2.1 hI.2.2.2.1 hI.2.2.2.2.1 hI.2.2.2.2.2.1 hI.2.2.2.2.2.2.1 hI.2.2.2.2.2.2.2.1 hI.2.2.2.2.2.2.2.2.1 hI.2.2.2.2.2.2.2.2.2.1 hI.2.2.2.2.2.2.2.2.2.2.1 hI.2.2.2.2.2.2.2.2.2.2.2.1 hI.2.2.2.2.2.2.2.2.2.2.2.2.2.1 hI.2.2.2.2.2.2.2.2.2.2.2.2.2.2.1 hI.2.2.2.2.2.2.2.2.2.2.2.2.2.2.2.1 hI.2.2.2.2.2.2.2.2.2.2.2.2.2.2.2.2.1 hI.2.2.2.2.2.2.2.2.2.2.2.2.2.2.2.2.2.1 hI.2.2.2.2.2.2.2.2.2.2.2.2.2.2.2.2.2.2.1 hI.2.2.2.2.2.2.2.2.2.2.2.2.2.2.2.2.2.2.2.2.2.2.2.2.2.2.1 hI.2.2.2.2.2.2.2.2.2.2.2.2.2.2.2.2.2.2.2.2.1 hI.2.2.2.2.2.2.2.2.2.2.2.2.2.2.2.2.2.2.2.2.2.2.2.1 hI.2.2.2.2.2.2.2.2.2.2.2.2.2.2.2.2.2.2.2.1 hI.2.2.2.2.2.2.2.2.2.2.2.2.2.2.2.2.2.2.2.2.2.1 hI.2.2.2.2.2.2.2.2.2.2.2.2.2.2.2.2.2.2.2.2.2.2.1) ?_ ?_ ?_
  · rintro args s ⟨rfl, hsz, hP, hK, hD⟩
    exact ⟨rfl, hsz, hP, hK, hD⟩
  · rintro args s o t ⟨rfl, hsz, hP, hK, hD⟩ ⟨⟨r, u, ho, hw, hB⟩, hF⟩
    obtain ⟨w0_37, w0_41, w0_42, z1, z2, z3, z4, z5, z6, z15, z16, hB⟩ := hB
    obtain ⟨gw0_37, gw0_41, gz6, hP1, hD1⟩ := hB
    subst hsz
    exact ⟨⟨r, (), ho, trivial, (upd (upd (upd mi 37 w0_37) 41 w0_41) 42 w0_42), (updF (updF (updF (updF (updF (updF (updF (updF fm 14 z1) 15 z2) 16 z3) 17 z4) 18 z5) 19 z6) 20 z15) 21 z16), ⟨hI.1, hI.2.1, hI.2.2.1, hI.2.2.2.1, hI.2.2.2.2.1, hI.2.2.2.2.2.1, hI.2.2.2.2.2.2.1, hI.2.2.2.2.2.2.2.1, hI.2.2.2.2.2.2.2.2.1, hI.2.2.2.2.2.2.2.2.2.1, hI.2.2.2.2.2.2.2.2.2.2.1, hI.2.2.2.2.2.2.2.2.2.2.2.1, hI.2.2.2.2.2.2.2.2.2.2.2.2.1, hI.2.2.2.2.2.2.2.2.2.2.2.2.2.1, gw0_37, gw0_41, hI.2.2.2.2.2.2.2.2.2.2.2.2.2.2.2.2.1, hI.2.2.2.2.2.2.2.2.2.2.2.2.2.2.2.2.2.1, hI.2.2.2.2.2.2.2.2.2.2.2.2.2.2.2.2.2.2.1, hI.2.2.2.2.2.2.2.2.2.2.2.2.2.2.2.2.2.2.2.1, hI.2.2.2.2.2.2.2.2.2.2.2.2.2.2.2.2.2.2.2.2.1, hI.2.2.2.2.2.2.2.2.2.2.2.2.2.2.2.2.2.2.2.2.2.1, hI.2.2.2.2.2.2.2.2.2.2.2.2.2.2.2.2.2.2.2.2.2.2.1, hI.2.2.2.2.2.2.2.2.2.2.2.2.2.2.2.2.2.2.2.2.2.2.2.1, hI.2.2.2.2.2.2.2.2.2.2.2.2.2.2.2.2.2.2.2.2.2.2.2.2.1, hI.2.2.2.2.2.2.2.2.2.2.2.2.2.2.2.2.2.2.2.2.2.2.2.2.2.1, gz6, hI.2.2.2.2.2.2.2.2.2.2.2.2.2.2.2.2.2.2.2.2.2.2.2.2.2.2.2.1, hI.2.2.2.2.2.2.2.2.2.2.2.2.2.2.2.2.2.2.2.2.2.2.2.2.2.2.2.2⟩, ⟨rfl, rfl, rfl, rfl, rfl, rfl, rfl, rfl, rfl, rfl, rfl, rfl, rfl, rfl, rfl, rfl, rfl, rfl, rfl, rfl, rfl, rfl, rfl, rfl⟩, hP1, hD1⟩, hF⟩
  · exact fun q h => h
set_option maxHeartbeats 4000000 in
set_option maxRecDepth 100000 in
theorem uX12_hang (l : Launch) (dC : Nat → ClassId) (dI : Nat → Nat → Nat) (sz : Nat) (hm : Nat) (mi : Nat → Int32) (mr : Nat → Nat) (km : Nat → ClassId) (fm : Nat → Nat → Int32) (hI : MI mi fm) (p1 : Int32) (p2 : Int32) : Met l yX12_hang (.code yX12_hang cX12_hang 3 (some .int) :: wsGB) ({ frames := 6, cells := 0, slots := 0, locals := 140 }) (va_Pc [.ref hm, .int p1, .int p2] (fun U => U.heap.size = sz ∧ va_P (dC, dI) vwCl (MW hm mi mr km fm) U.heap ∧ va_K (dC, dI) vwCl (MT km) U ∧ va_D (fun _ => True) (MW hm mi mr km fm))) (va_Qi (fun (r : Int32) (u : Unit) => True) (fun _ t => MB dC dI hm mi mr km fm sz (fun v f => styM mi fm v f) t) (va_A (MW hm mi mr km fm) sz)) 0 0 (va_A (MW hm mi mr km fm) sz) := by
  refine gz_mono (sX12_hang l dC dI sz hm mi mr km (fm 14) (fm 15) (fm 16) (fm 17) (fm 18) (fm 19) (fm 4) (fm 7) (fm 2) (fm 5) (fm 6) (fm 3) (fm 0) (fm 1) (fm 20) (fm 21) (fm 8) (fm 9) (fm 10) (fm 11) (fm 12) (fm 13) (fm 22) (fm 23) p1 p2 hI.1 hI.2.1 hI.2.2.1 hI.2.2.2.1 hI.2.2.2.2.1 hI.2.2.2.2.2.1 hI.2.2.2.2.2.2.1 hI.2.2.2.2.2.2.2.1 hI.2.2.2.2.2.2.2.2.1 hI.2.2.2.2.2.2.2.2.2.1 hI.2.2.2.2.2.2.2.2.2.2.1 hI.2.2.2.2.2.2.2.2.2.2.2.1 hI.2.2.2.2.2.2.2.2.2.2.2.2.2.1 hI.2.2.2.2.2.2.2.2.2.2.2.2.2.2.1 hI.2.2.2.2.2.2.2.2.2.2.2.2.2.2.2.1 hI.2.2.2.2.2.2.2.2.2.2.2.2.2.2.2.2.1 hI.2.2.2.2.2.2.2.2.2.2.2.2.2.2.2.2.2.1 hI.2.2.2.2.2.2.2.2.2.2.2.2.2.2.2.2.2.2.1 hI.2.2.2.2.2.2.2.2.2.2.2.2.2.2.2.2.2.2.2.2.2.2.2.2.2.2.1 hI.2.2.2.2.2.2.2.2.2.2.2.2.2.2.2.2.2.2.2.2.1 hI.2.2.2.2.2.2.2.2.2.2.2.2.2.2.2.2.2.2.2.2.2.2.2.1 hI.2.2.2.2.2.2.2.2.2.2.2.2.2.2.2.2.2.2.2.1 hI.2.2.2.2.2.2.2.2.2.2.2.2.2.2.2.2.2.2.2.2.2.1 hI.2.2.2.2.2.2.2.2.2.2.2.2.2.2.2.2.2.2.2.2.2.2.1) ?_ ?_ ?_
  · rintro args s ⟨rfl, hsz, hP, hK, hD⟩
    exact ⟨rfl, hsz, hP, hK, hD⟩
  · rintro args s o t ⟨rfl, hsz, hP, hK, hD⟩ ⟨⟨r, u, ho, hw, hB⟩, hF⟩
    obtain ⟨w0_37, w0_41, w0_43, z1, z2, z3, z4, z5, z6, z15, z16, hB⟩ := hB
    obtain ⟨gw0_37, gw0_41, gz6, hP1, hD1⟩ := hB
    subst hsz
    exact ⟨⟨r, (), ho, trivial, (upd (upd (upd mi 37 w0_37) 41 w0_41) 43 w0_43), (updF (updF (updF (updF (updF (updF (updF (updF fm 14 z1) 15 z2) 16 z3) 17 z4) 18 z5) 19 z6) 20 z15) 21 z16), ⟨hI.1, hI.2.1, hI.2.2.1, hI.2.2.2.1, hI.2.2.2.2.1, hI.2.2.2.2.2.1, hI.2.2.2.2.2.2.1, hI.2.2.2.2.2.2.2.1, hI.2.2.2.2.2.2.2.2.1, hI.2.2.2.2.2.2.2.2.2.1, hI.2.2.2.2.2.2.2.2.2.2.1, hI.2.2.2.2.2.2.2.2.2.2.2.1, hI.2.2.2.2.2.2.2.2.2.2.2.2.1, hI.2.2.2.2.2.2.2.2.2.2.2.2.2.1, gw0_37, gw0_41, hI.2.2.2.2.2.2.2.2.2.2.2.2.2.2.2.2.1, hI.2.2.2.2.2.2.2.2.2.2.2.2.2.2.2.2.2.1, hI.2.2.2.2.2.2.2.2.2.2.2.2.2.2.2.2.2.2.1, hI.2.2.2.2.2.2.2.2.2.2.2.2.2.2.2.2.2.2.2.1, hI.2.2.2.2.2.2.2.2.2.2.2.2.2.2.2.2.2.2.2.2.1, hI.2.2.2.2.2.2.2.2.2.2.2.2.2.2.2.2.2.2.2.2.2.1, hI.2.2.2.2.2.2.2.2.2.2.2.2.2.2.2.2.2.2.2.2.2.2.1, hI.2.2.2.2.2.2.2.2.2.2.2.2.2.2.2.2.2.2.2.2.2.2.2.1, hI.2.2.2.2.2.2.2.2.2.2.2.2.2.2.2.2.2.2.2.2.2.2.2.2.1, hI.2.2.2.2.2.2.2.2.2.2.2.2.2.2.2.2.2.2.2.2.2.2.2.2.2.1, gz6, hI.2.2.2.2.2.2.2.2.2.2.2.2.2.2.2.2.2.2.2.2.2.2.2.2.2.2.2.1, hI.2.2.2.2.2.2.2.2.2.2.2.2.2.2.2.2.2.2.2.2.2.2.2.2.2.2.2.2⟩, ⟨rfl, rfl, rfl, rfl, rfl, rfl, rfl, rfl, rfl, rfl, rfl, rfl, rfl, rfl, rfl, rfl, rfl, rfl, rfl, rfl, rfl, rfl, rfl, rfl⟩, hP1, hD1⟩, hF⟩
  · exact fun q h => h
set_option maxHeartbeats 4000000 in
set_option maxRecDepth 100000 in
theorem uX12_telling (l : Launch) (dC : Nat → ClassId) (dI : Nat → Nat → Nat) (sz : Nat) (hm : Nat) (mi : Nat → Int32) (mr : Nat → Nat) (km : Nat → ClassId) (fm : Nat → Nat → Int32) (hI : MI mi fm) (p1 : Int32) : Met l yX12_telling (.code yX12_telling cX12_telling 7 (some .int) :: wsGB) ({ frames := 5, cells := 0, slots := 0, locals := 123 }) (va_Pc [.ref hm, .int p1] (fun U => U.heap.size = sz ∧ va_P (dC, dI) vwCl (MW hm mi mr km fm) U.heap ∧ va_K (dC, dI) vwCl (MT km) U ∧ va_D (fun _ => True) (MW hm mi mr km fm))) (va_Qi (fun (r : Int32) (u : Unit) => True) (fun _ t => MB dC dI hm mi mr km fm sz (fun v f => styM mi fm v f) t) (va_A (MW hm mi mr km fm) sz)) 0 0 (va_A (MW hm mi mr km fm) sz) := by
  refine gz_mono (sX12_telling l dC dI sz hm mi mr km (fm 14) (fm 15) (fm 16) (fm 17) (fm 18) (fm 19) (fm 4) (fm 7) (fm 2) (fm 5) (fm 6) (fm 3) (fm 0) (fm 1) (fm 8) (fm 9) (fm 10) (fm 11) (fm 12) (fm 13) (fm 20) (fm 21) (fm 22) (fm 23) p1 hI.1 hI.2.1 hI.2.2.1 hI.2.2.2.1 hI.2.2.2.2.1 hI.2.2.2.2.2.1 hI.2.2.2.2.2.2.1 hI.2.2.2.2.2.2.2.1 hI.2.2.2.2.2.2.2.2.1 hI.2.2.2.2.2.2.2.2.2.1 hI.2.2.2.2.2.2.2.2.2.2.1 hI.2.2.2.2.2.2.2.2.2.2.2.1 hI.2.2.2.2.2.2.2.2.2.2.2.2.2.1 hI.2.2.2.2.2.2.2.2.2.2.2.2.2.2.1 hI.2.2.2.2.2.2.2.2.2.2.2.2.2.2.2.1 hI.2.2.2.2.2.2.2.2.2.2.2.2.2.2.2.2.1 hI.2.2.2.2.2.2.2.2.2.2.2.2.2.2.2.2.2.1 hI.2.2.2.2.2.2.2.2.2.2.2.2.2.2.2.2.2.2.1 hI.2.2.2.2.2.2.2.2.2.2.2.2.2.2.2.2.2.2.2.2.2.2.2.2.2.2.1 hI.2.2.2.2.2.2.2.2.2.2.2.2.2.2.2.2.2.2.2.2.1 hI.2.2.2.2.2.2.2.2.2.2.2.2.2.2.2.2.2.2.2.2.2.2.2.1 hI.2.2.2.2.2.2.2.2.2.2.2.2.2.2.2.2.2.2.2.1 hI.2.2.2.2.2.2.2.2.2.2.2.2.2.2.2.2.2.2.2.2.2.1 hI.2.2.2.2.2.2.2.2.2.2.2.2.2.2.2.2.2.2.2.2.2.2.1) ?_ ?_ ?_
  · rintro args s ⟨rfl, hsz, hP, hK, hD⟩
    exact ⟨rfl, hsz, hP, hK, hD⟩
  · rintro args s o t ⟨rfl, hsz, hP, hK, hD⟩ ⟨⟨r, u, ho, hw, hB⟩, hF⟩
    obtain ⟨w0_37, w0_41, z1, z2, z3, z4, z5, z6, hB⟩ := hB
    obtain ⟨gw0_37, gw0_41, gz6, hP1, hD1⟩ := hB
    subst hsz
    exact ⟨⟨r, (), ho, trivial, (upd (upd mi 37 w0_37) 41 w0_41), (updF (updF (updF (updF (updF (updF fm 14 z1) 15 z2) 16 z3) 17 z4) 18 z5) 19 z6), ⟨hI.1, hI.2.1, hI.2.2.1, hI.2.2.2.1, hI.2.2.2.2.1, hI.2.2.2.2.2.1, hI.2.2.2.2.2.2.1, hI.2.2.2.2.2.2.2.1, hI.2.2.2.2.2.2.2.2.1, hI.2.2.2.2.2.2.2.2.2.1, hI.2.2.2.2.2.2.2.2.2.2.1, hI.2.2.2.2.2.2.2.2.2.2.2.1, hI.2.2.2.2.2.2.2.2.2.2.2.2.1, hI.2.2.2.2.2.2.2.2.2.2.2.2.2.1, gw0_37, gw0_41, hI.2.2.2.2.2.2.2.2.2.2.2.2.2.2.2.2.1, hI.2.2.2.2.2.2.2.2.2.2.2.2.2.2.2.2.2.1, hI.2.2.2.2.2.2.2.2.2.2.2.2.2.2.2.2.2.2.1, hI.2.2.2.2.2.2.2.2.2.2.2.2.2.2.2.2.2.2.2.1, hI.2.2.2.2.2.2.2.2.2.2.2.2.2.2.2.2.2.2.2.2.1, hI.2.2.2.2.2.2.2.2.2.2.2.2.2.2.2.2.2.2.2.2.2.1, hI.2.2.2.2.2.2.2.2.2.2.2.2.2.2.2.2.2.2.2.2.2.2.1, hI.2.2.2.2.2.2.2.2.2.2.2.2.2.2.2.2.2.2.2.2.2.2.2.1, hI.2.2.2.2.2.2.2.2.2.2.2.2.2.2.2.2.2.2.2.2.2.2.2.2.1, hI.2.2.2.2.2.2.2.2.2.2.2.2.2.2.2.2.2.2.2.2.2.2.2.2.2.1, gz6, hI.2.2.2.2.2.2.2.2.2.2.2.2.2.2.2.2.2.2.2.2.2.2.2.2.2.2.2.1, hI.2.2.2.2.2.2.2.2.2.2.2.2.2.2.2.2.2.2.2.2.2.2.2.2.2.2.2.2⟩, ⟨rfl, rfl, rfl, rfl, rfl, rfl, rfl, rfl, rfl, rfl, rfl, rfl, rfl, rfl, rfl, rfl, rfl, rfl, rfl, rfl, rfl, rfl, rfl, rfl⟩, hP1, hD1⟩, hF⟩
  · exact fun q h => h
set_option maxHeartbeats 4000000 in
set_option maxRecDepth 100000 in
theorem uX12_trusted (l : Launch) (dC : Nat → ClassId) (dI : Nat → Nat → Nat) (sz : Nat) (hm : Nat) (mi : Nat → Int32) (mr : Nat → Nat) (km : Nat → ClassId) (fm : Nat → Nat → Int32) (hI : MI mi fm) (p1 : Int32) (p2 : Int32) : Met l yX12_trusted (.code yX12_trusted cX12_trusted 5 (some .int) :: wsGB) ({ frames := 5, cells := 0, slots := 0, locals := 119 }) (va_Pc [.ref hm, .int p1, .int p2] (fun U => U.heap.size = sz ∧ va_P (dC, dI) vwCl (MW hm mi mr km fm) U.heap ∧ va_K (dC, dI) vwCl (MT km) U ∧ va_D (fun _ => True) (MW hm mi mr km fm))) (va_Qi (fun (r : Int32) (u : Unit) => True) (fun _ t => MB dC dI hm mi mr km fm sz (fun v f => styM mi fm v f) t) (va_A (MW hm mi mr km fm) sz)) 0 0 (va_A (MW hm mi mr km fm) sz) := by
  refine gz_mono (sX12_trusted l dC dI sz hm mi mr km (fm 14) (fm 15) (fm 16) (fm 17) (fm 18) (fm 19) (fm 4) (fm 7) (fm 2) (fm 5) (fm 6) (fm 3) (fm 0) (fm 1) (fm 8) (fm 9) (fm 10) (fm 11) (fm 12) (fm 13) (fm 20) (fm 21) (fm 22) (fm 23) p1 p2 hI.1 hI.2.1 hI.2.2.1 hI.2.2.2.1 hI.2.2.2.2.1 hI.2.2.2.2.2.1 hI.2.2.2.2.2.2.1 hI.2.2.2.2.2.2.2.1 hI.2.2.2.2.2.2.2.2.1 hI.2.2.2.2.2.2.2.2.2.1 hI.2.2.2.2.2.2.2.2.2.2.1 hI.2.2.2.2.2.2.2.2.2.2.2.1 hI.2.2.2.2.2.2.2.2.2.2.2.2.2.1 hI.2.2.2.2.2.2.2.2.2.2.2.2.2.2.1 hI.2.2.2.2.2.2.2.2.2.2.2.2.2.2.2.1 hI.2.2.2.2.2.2.2.2.2.2.2.2.2.2.2.2.1 hI.2.2.2.2.2.2.2.2.2.2.2.2.2.2.2.2.2.1 hI.2.2.2.2.2.2.2.2.2.2.2.2.2.2.2.2.2.2.1 hI.2.2.2.2.2.2.2.2.2.2.2.2.2.2.2.2.2.2.2.2.2.2.2.2.2.2.1 hI.2.2.2.2.2.2.2.2.2.2.2.2.2.2.2.2.2.2.2.2.1 hI.2.2.2.2.2.2.2.2.2.2.2.2.2.2.2.2.2.2.2.2.2.2.2.1 hI.2.2.2.2.2.2.2.2.2.2.2.2.2.2.2.2.2.2.2.1 hI.2.2.2.2.2.2.2.2.2.2.2.2.2.2.2.2.2.2.2.2.2.1 hI.2.2.2.2.2.2.2.2.2.2.2.2.2.2.2.2.2.2.2.2.2.2.1) ?_ ?_ ?_
  · rintro args s ⟨rfl, hsz, hP, hK, hD⟩
    exact ⟨rfl, hsz, hP, hK, hD⟩
  · rintro args s o t ⟨rfl, hsz, hP, hK, hD⟩ ⟨⟨r, u, ho, hw, hB⟩, hF⟩
    obtain ⟨w0_37, w0_41, w0_44, w0_45, z1, z2, z3, z4, z5, z6, hB⟩ := hB
    obtain ⟨gw0_37, gw0_41, gz6, hP1, hD1⟩ := hB
    subst hsz
    exact ⟨⟨r, (), ho, trivial, (upd (upd (upd (upd mi 37 w0_37) 41 w0_41) 44 w0_44) 45 w0_45), (updF (updF (updF (updF (updF (updF fm 14 z1) 15 z2) 16 z3) 17 z4) 18 z5) 19 z6), ⟨hI.1, hI.2.1, hI.2.2.1, hI.2.2.2.1, hI.2.2.2.2.1, hI.2.2.2.2.2.1, hI.2.2.2.2.2.2.1, hI.2.2.2.2.2.2.2.1, hI.2.2.2.2.2.2.2.2.1, hI.2.2.2.2.2.2.2.2.2.1, hI.2.2.2.2.2.2.2.2.2.2.1, hI.2.2.2.2.2.2.2.2.2.2.2.1, hI.2.2.2.2.2.2.2.2.2.2.2.2.1, hI.2.2.2.2.2.2.2.2.2.2.2.2.2.1, gw0_37, gw0_41, hI.2.2.2.2.2.2.2.2.2.2.2.2.2.2.2.2.1, hI.2.2.2.2.2.2.2.2.2.2.2.2.2.2.2.2.2.1, hI.2.2.2.2.2.2.2.2.2.2.2.2.2.2.2.2.2.2.1, hI.2.2.2.2.2.2.2.2.2.2.2.2.2.2.2.2.2.2.2.1, hI.2.2.2.2.2.2.2.2.2.2.2.2.2.2.2.2.2.2.2.2.1, hI.2.2.2.2.2.2.2.2.2.2.2.2.2.2.2.2.2.2.2.2.2.1, hI.2.2.2.2.2.2.2.2.2.2.2.2.2.2.2.2.2.2.2.2.2.2.1, hI.2.2.2.2.2.2.2.2.2.2.2.2.2.2.2.2.2.2.2.2.2.2.2.1, hI.2.2.2.2.2.2.2.2.2.2.2.2.2.2.2.2.2.2.2.2.2.2.2.2.1, hI.2.2.2.2.2.2.2.2.2.2.2.2.2.2.2.2.2.2.2.2.2.2.2.2.2.1, gz6, hI.2.2.2.2.2.2.2.2.2.2.2.2.2.2.2.2.2.2.2.2.2.2.2.2.2.2.2.1, hI.2.2.2.2.2.2.2.2.2.2.2.2.2.2.2.2.2.2.2.2.2.2.2.2.2.2.2.2⟩, ⟨rfl, rfl, rfl, rfl, rfl, rfl, rfl, rfl, rfl, rfl, rfl, rfl, rfl, rfl, rfl, rfl, rfl, rfl, rfl, rfl, rfl, rfl, rfl, rfl⟩, hP1, hD1⟩, hF⟩
  · exact fun q h => h
set_option maxHeartbeats 4000000 in
set_option maxRecDepth 100000 in
theorem uX12_days (l : Launch) (dC : Nat → ClassId) (dI : Nat → Nat → Nat) (sz : Nat) (hm : Nat) (mi : Nat → Int32) (mr : Nat → Nat) (km : Nat → ClassId) (fm : Nat → Nat → Int32) (hI : MI mi fm) (p1 : Int32) (p2 : Int32) : Met l yX12_days (.code yX12_days cX12_days 3 (some .int) :: wsGB) ({ frames := 6, cells := 0, slots := 0, locals := 140 }) (va_Pc [.ref hm, .int p1, .int p2] (fun U => U.heap.size = sz ∧ va_P (dC, dI) vwCl (MW hm mi mr km fm) U.heap ∧ va_K (dC, dI) vwCl (MT km) U ∧ va_D (fun _ => True) (MW hm mi mr km fm))) (va_Qi (fun (r : Int32) (u : Unit) => True) (fun _ t => MB dC dI hm mi mr km fm sz (fun v f => styM mi fm v f) t) (va_A (MW hm mi mr km fm) sz)) 0 0 (va_A (MW hm mi mr km fm) sz) := by
  refine gz_mono (sX12_days l dC dI sz hm mi mr km (fm 14) (fm 15) (fm 16) (fm 17) (fm 18) (fm 19) (fm 4) (fm 7) (fm 2) (fm 5) (fm 6) (fm 3) (fm 0) (fm 1) (fm 20) (fm 8) (fm 10) (fm 11) (fm 9) (fm 12) (fm 13) (fm 21) (fm 22) (fm 23) p1 p2 hI.1 hI.2.1 hI.2.2.1 hI.2.2.2.1 hI.2.2.2.2.1 hI.2.2.2.2.2.1 hI.2.2.2.2.2.2.1 hI.2.2.2.2.2.2.2.1 hI.2.2.2.2.2.2.2.2.1 hI.2.2.2.2.2.2.2.2.2.1 hI.2.2.2.2.2.2.2.2.2.2.1 hI.2.2.2.2.2.2.2.2.2.2.2.1 hI.2.2.2.2.2.2.2.2.2.2.2.2.2.1 hI.2.2.2.2.2.2.2.2.2.2.2.2.2.2.1 hI.2.2.2.2.2.2.2.2.2.2.2.2.2.2.2.1 hI.2.2.2.2.2.2.2.2.2.2.2.2.2.2.2.2.1 hI.2.2.2.2.2.2.2.2.2.2.2.2.2.2.2.2.2.1 hI.2.2.2.2.2.2.2.2.2.2.2.2.2.2.2.2.2.2.1 hI.2.2.2.2.2.2.2.2.2.2.2.2.2.2.2.2.2.2.2.2.2.2.2.2.2.2.1 hI.2.2.2.2.2.2.2.2.2.2.2.2.2.2.2.2.2.2.2.2.1 hI.2.2.2.2.2.2.2.2.2.2.2.2.2.2.2.2.2.2.2.2.2.2.2.1 hI.2.2.2.2.2.2.2.2.2.2.2.2.2.2.2.2.2.2.2.1 hI.2.2.2.2.2.2.2.2.2.2.2.2.2.2.2.2.2.2.2.2.2.1 hI.2.2.2.2.2.2.2.2.2.2.2.2.2.2.2.2.2.2.2.2.2.2.1 hI.2.2.2.2.2.2.2.2.2.2.2.2.2.2.2.2.2.2.2.2.2.2.2.2.1 hI.2.2.2.2.2.2.2.2.2.2.2.2.2.2.2.2.2.2.2.2.2.2.2.2.2.1 hI.2.2.2.2.2.2.2.2.2.2.2.2.2.2.2.2.2.2.2.2.2.2.2.2.2.2.2.1) ?_ ?_ ?_
  · rintro args s ⟨rfl, hsz, hP, hK, hD⟩
    exact ⟨rfl, hsz, hP, hK, hD⟩
  · rintro args s o t ⟨rfl, hsz, hP, hK, hD⟩ ⟨⟨r, u, ho, hw, hB⟩, hF⟩
    obtain ⟨w0_37, w0_41, z1, z2, z3, z4, z5, z6, z15, hB⟩ := hB
    obtain ⟨gw0_37, gw0_41, gz6, hP1, hD1⟩ := hB
    subst hsz
    exact ⟨⟨r, (), ho, trivial, (upd (upd mi 37 w0_37) 41 w0_41), (updF (updF (updF (updF (updF (updF (updF fm 14 z1) 15 z2) 16 z3) 17 z4) 18 z5) 19 z6) 20 z15), ⟨hI.1, hI.2.1, hI.2.2.1, hI.2.2.2.1, hI.2.2.2.2.1, hI.2.2.2.2.2.1, hI.2.2.2.2.2.2.1, hI.2.2.2.2.2.2.2.1, hI.2.2.2.2.2.2.2.2.1, hI.2.2.2.2.2.2.2.2.2.1, hI.2.2.2.2.2.2.2.2.2.2.1, hI.2.2.2.2.2.2.2.2.2.2.2.1, hI.2.2.2.2.2.2.2.2.2.2.2.2.1, hI.2.2.2.2.2.2.2.2.2.2.2.2.2.1, gw0_37, gw0_41, hI.2.2.2.2.2.2.2.2.2.2.2.2.2.2.2.2.1, hI.2.2.2.2.2.2.2.2.2.2.2.2.2.2.2.2.2.1, hI.2.2.2.2.2.2.2.2.2.2.2.2.2.2.2.2.2.2.1, hI.2.2.2.2.2.2.2.2.2.2.2.2.2.2.2.2.2.2.2.1, hI.2.2.2.2.2.2.2.2.2.2.2.2.2.2.2.2.2.2.2.2.1, hI.2.2.2.2.2.2.2.2.2.2.2.2.2.2.2.2.2.2.2.2.2.1, hI.2.2.2.2.2.2.2.2.2.2.2.2.2.2.2.2.2.2.2.2.2.2.1, hI.2.2.2.2.2.2.2.2.2.2.2.2.2.2.2.2.2.2.2.2.2.2.2.1, hI.2.2.2.2.2.2.2.2.2.2.2.2.2.2.2.2.2.2.2.2.2.2.2.2.1, hI.2.2.2.2.2.2.2.2.2.2.2.2.2.2.2.2.2.2.2.2.2.2.2.2.2.1, gz6, hI.2.2.2.2.2.2.2.2.2.2.2.2.2.2.2.2.2.2.2.2.2.2.2.2.2.2.2.1, hI.2.2.2.2.2.2.2.2.2.2.2.2.2.2.2.2.2.2.2.2.2.2.2.2.2.2.2.2⟩, ⟨rfl, rfl, rfl, rfl, rfl, rfl, rfl, rfl, rfl, rfl, rfl, rfl, rfl, rfl, rfl, rfl, rfl, rfl, rfl, rfl, rfl, rfl, rfl, rfl⟩, hP1, hD1⟩, hF⟩
  · exact fun q h => h
set_option maxHeartbeats 4000000 in
set_option maxRecDepth 100000 in
theorem uX12_weekday (l : Launch) (dC : Nat → ClassId) (dI : Nat → Nat → Nat) (sz : Nat) (hm : Nat) (mi : Nat → Int32) (mr : Nat → Nat) (km : Nat → ClassId) (fm : Nat → Nat → Int32) (hI : MI mi fm) (p1 : Int32) (p2 : Int32) (p3 : Int32) (p4 : Int32) : Met l yX12_weekday (.code yX12_weekday cX12_weekday 7 (some .int) :: wsGB) ({ frames := 6, cells := 0, slots := 0, locals := 147 }) (va_Pc [.ref hm, .int p1, .int p2, .int p3, .int p4] (fun U => U.heap.size = sz ∧ va_P (dC, dI) vwCl (MW hm mi mr km fm) U.heap ∧ va_K (dC, dI) vwCl (MT km) U ∧ va_D (fun _ => True) (MW hm mi mr km fm))) (va_Qi (fun (r : Int32) (u : Unit) => True) (fun _ t => MB dC dI hm mi mr km fm sz (fun v f => styM mi fm v f) t) (va_A (MW hm mi mr km fm) sz)) 0 0 (va_A (MW hm mi mr km fm) sz) := by
  refine gz_mono (sX12_weekday l dC dI sz hm mi mr km (fm 14) (fm 15) (fm 16) (fm 17) (fm 18) (fm 19) (fm 4) (fm 7) (fm 2) (fm 5) (fm 6) (fm 3) (fm 0) (fm 1) (fm 8) (fm 9) (fm 10) (fm 11) (fm 12) (fm 13) (fm 20) (fm 21) (fm 22) (fm 23) p1 p2 p3 p4 hI.1 hI.2.1 hI.2.2.1 hI.2.2.2.1 hI.2.2.2.2.1 hI.2.2.2.2.2.1 hI.2.2.2.2.2.2.1 hI.2.2.2.2.2.2.2.1 hI.2.2.2.2.2.2.2.2.1 hI.2.2.2.2.2.2.2.2.2.1 hI.2.2.2.2.2.2.2.2.2.2.1 hI.2.2.2.2.2.2.2.2.2.2.2.1 hI.2.2.2.2.2.2.2.2.2.2.2.2.2.1 hI.2.2.2.2.2.2.2.2.2.2.2.2.2.2.1 hI.2.2.2.2.2.2.2.2.2.2.2.2.2.2.2.1 hI.2.2.2.2.2.2.2.2.2.2.2.2.2.2.2.2.1 hI.2.2.2.2.2.2.2.2.2.2.2.2.2.2.2.2.2.1 hI.2.2.2.2.2.2.2.2.2.2.2.2.2.2.2.2.2.2.1 hI.2.2.2.2.2.2.2.2.2.2.2.2.2.2.2.2.2.2.2.2.2.2.2.2.2.2.1 hI.2.2.2.2.2.2.2.2.2.2.2.2.2.2.2.2.2.2.2.2.1 hI.2.2.2.2.2.2.2.2.2.2.2.2.2.2.2.2.2.2.2.2.2.2.2.1 hI.2.2.2.2.2.2.2.2.2.2.2.2.2.2.2.2.2.2.2.1 hI.2.2.2.2.2.2.2.2.2.2.2.2.2.2.2.2.2.2.2.2.2.1 hI.2.2.2.2.2.2.2.2.2.2.2.2.2.2.2.2.2.2.2.2.2.2.1) ?_ ?_ ?_
  · rintro args s ⟨rfl, hsz, hP, hK, hD⟩
    exact ⟨rfl, hsz, hP, hK, hD⟩
  · rintro args s o t ⟨rfl, hsz, hP, hK, hD⟩ ⟨⟨r, u, ho, hw, hB⟩, hF⟩
    obtain ⟨w0_37, w0_41, z1, z2, z3, z4, z5, z6, hB⟩ := hB
    obtain ⟨gw0_37, gw0_41, gz6, hP1, hD1⟩ := hB
    subst hsz
    exact ⟨⟨r, (), ho, trivial, (upd (upd mi 37 w0_37) 41 w0_41), (updF (updF (updF (updF (updF (updF fm 14 z1) 15 z2) 16 z3) 17 z4) 18 z5) 19 z6), ⟨hI.1, hI.2.1, hI.2.2.1, hI.2.2.2.1, hI.2.2.2.2.1, hI.2.2.2.2.2.1, hI.2.2.2.2.2.2.1, hI.2.2.2.2.2.2.2.1, hI.2.2.2.2.2.2.2.2.1, hI.2.2.2.2.2.2.2.2.2.1, hI.2.2.2.2.2.2.2.2.2.2.1, hI.2.2.2.2.2.2.2.2.2.2.2.1, hI.2.2.2.2.2.2.2.2.2.2.2.2.1, hI.2.2.2.2.2.2.2.2.2.2.2.2.2.1, gw0_37, gw0_41, hI.2.2.2.2.2.2.2.2.2.2.2.2.2.2.2.2.1, hI.2.2.2.2.2.2.2.2.2.2.2.2.2.2.2.2.2.1, hI.2.2.2.2.2.2.2.2.2.2.2.2.2.2.2.2.2.2.1, hI.2.2.2.2.2.2.2.2.2.2.2.2.2.2.2.2.2.2.2.1, hI.2.2.2.2.2.2.2.2.2.2.2.2.2.2.2.2.2.2.2.2.1, hI.2.2.2.2.2.2.2.2.2.2.2.2.2.2.2.2.2.2.2.2.2.1, hI.2.2.2.2.2.2.2.2.2.2.2.2.2.2.2.2.2.2.2.2.2.2.1, hI.2.2.2.2.2.2.2.2.2.2.2.2.2.2.2.2.2.2.2.2.2.2.2.1, hI.2.2.2.2.2.2.2.2.2.2.2.2.2.2.2.2.2.2.2.2.2.2.2.2.1, hI.2.2.2.2.2.2.2.2.2.2.2.2.2.2.2.2.2.2.2.2.2.2.2.2.2.1, gz6, hI.2.2.2.2.2.2.2.2.2.2.2.2.2.2.2.2.2.2.2.2.2.2.2.2.2.2.2.1, hI.2.2.2.2.2.2.2.2.2.2.2.2.2.2.2.2.2.2.2.2.2.2.2.2.2.2.2.2⟩, ⟨rfl, rfl, rfl, rfl, rfl, rfl, rfl, rfl, rfl, rfl, rfl, rfl, rfl, rfl, rfl, rfl, rfl, rfl, rfl, rfl, rfl, rfl, rfl, rfl⟩, hP1, hD1⟩, hF⟩
  · exact fun q h => h
set_option maxHeartbeats 4000000 in
set_option maxRecDepth 100000 in
theorem uX12_later (l : Launch) (dC : Nat → ClassId) (dI : Nat → Nat → Nat) (sz : Nat) (hm : Nat) (mi : Nat → Int32) (mr : Nat → Nat) (km : Nat → ClassId) (fm : Nat → Nat → Int32) (hI : MI mi fm) (p1 : Int32) : Met l yX12_later (.code yX12_later cX12_later 4 (some .int) :: wsGB) ({ frames := 5, cells := 0, slots := 0, locals := 119 }) (va_Pc [.ref hm, .int p1] (fun U => U.heap.size = sz ∧ va_P (dC, dI) vwCl (MW hm mi mr km fm) U.heap ∧ va_K (dC, dI) vwCl (MT km) U ∧ va_D (fun _ => True) (MW hm mi mr km fm))) (va_Qi (fun (r : Int32) (u : Unit) => True) (fun _ t => MB dC dI hm mi mr km fm sz (fun v f => styM mi fm v f) t) (va_A (MW hm mi mr km fm) sz)) 0 0 (va_A (MW hm mi mr km fm) sz) := by
  refine gz_mono (sX12_later l dC dI sz hm mi mr km (fm 14) (fm 15) (fm 16) (fm 17) (fm 18) (fm 19) (fm 4) (fm 7) (fm 2) (fm 5) (fm 6) (fm 3) (fm 0) (fm 1) (fm 8) (fm 9) (fm 10) (fm 11) (fm 12) (fm 13) (fm 20) (fm 21) (fm 22) (fm 23) p1 hI.1 hI.2.1 hI.2.2.1 hI.2.2.2.1 hI.2.2.2.2.1 hI.2.2.2.2.2.1 hI.2.2.2.2.2.2.1 hI.2.2.2.2.2.2.2.1 hI.2.2.2.2.2.2.2.2.1 hI.2.2.2.2.2.2.2.2.2.1 hI.2.2.2.2.2.2.2.2.2.2.1 hI.2.2.2.2.2.2.2.2.2.2.2.1 hI.2.2.2.2.2.2.2.2.2.2.2.2.2.1 hI.2.2.2.2.2.2.2.2.2.2.2.2.2.2.1 hI.2.2.2.2.2.2.2.2.2.2.2.2.2.2.2.1 hI.2.2.2.2.2.2.2.2.2.2.2.2.2.2.2.2.1 hI.2.2.2.2.2.2.2.2.2.2.2.2.2.2.2.2.2.1 hI.2.2.2.2.2.2.2.2.2.2.2.2.2.2.2.2.2.2.1 hI.2.2.2.2.2.2.2.2.2.2.2.2.2.2.2.2.2.2.2.2.2.2.2.2.2.2.1 hI.2.2.2.2.2.2.2.2.2.2.2.2.2.2.2.2.2.2.2.2.1 hI.2.2.2.2.2.2.2.2.2.2.2.2.2.2.2.2.2.2.2.2.2.2.2.1 hI.2.2.2.2.2.2.2.2.2.2.2.2.2.2.2.2.2.2.2.1 hI.2.2.2.2.2.2.2.2.2.2.2.2.2.2.2.2.2.2.2.2.2.1 hI.2.2.2.2.2.2.2.2.2.2.2.2.2.2.2.2.2.2.2.2.2.2.1) ?_ ?_ ?_
  · rintro args s ⟨rfl, hsz, hP, hK, hD⟩
    exact ⟨rfl, hsz, hP, hK, hD⟩
  · rintro args s o t ⟨rfl, hsz, hP, hK, hD⟩ ⟨⟨r, u, ho, hw, hB⟩, hF⟩
    obtain ⟨w0_37, w0_41, z1, z2, z3, z4, z5, z6, hB⟩ := hB
    obtain ⟨gw0_37, gw0_41, gz6, hP1, hD1⟩ := hB
    subst hsz
    exact ⟨⟨r, (), ho, trivial, (upd (upd mi 37 w0_37) 41 w0_41), (updF (updF (updF (updF (updF (updF fm 14 z1) 15 z2) 16 z3) 17 z4) 18 z5) 19 z6), ⟨hI.1, hI.2.1, hI.2.2.1, hI.2.2.2.1, hI.2.2.2.2.1, hI.2.2.2.2.2.1, hI.2.2.2.2.2.2.1, hI.2.2.2.2.2.2.2.1, hI.2.2.2.2.2.2.2.2.1, hI.2.2.2.2.2.2.2.2.2.1, hI.2.2.2.2.2.2.2.2.2.2.1, hI.2.2.2.2.2.2.2.2.2.2.2.1, hI.2.2.2.2.2.2.2.2.2.2.2.2.1, hI.2.2.2.2.2.2.2.2.2.2.2.2.2.1, gw0_37, gw0_41, hI.2.2.2.2.2.2.2.2.2.2.2.2.2.2.2.2.1, hI.2.2.2.2.2.2.2.2.2.2.2.2.2.2.2.2.2.1, hI.2.2.2.2.2.2.2.2.2.2.2.2.2.2.2.2.2.2.1, hI.2.2.2.2.2.2.2.2.2.2.2.2.2.2.2.2.2.2.2.1, hI.2.2.2.2.2.2.2.2.2.2.2.2.2.2.2.2.2.2.2.2.1, hI.2.2.2.2.2.2.2.2.2.2.2.2.2.2.2.2.2.2.2.2.2.1, hI.2.2.2.2.2.2.2.2.2.2.2.2.2.2.2.2.2.2.2.2.2.2.1, hI.2.2.2.2.2.2.2.2.2.2.2.2.2.2.2.2.2.2.2.2.2.2.2.1, hI.2.2.2.2.2.2.2.2.2.2.2.2.2.2.2.2.2.2.2.2.2.2.2.2.1, hI.2.2.2.2.2.2.2.2.2.2.2.2.2.2.2.2.2.2.2.2.2.2.2.2.2.1, gz6, hI.2.2.2.2.2.2.2.2.2.2.2.2.2.2.2.2.2.2.2.2.2.2.2.2.2.2.2.1, hI.2.2.2.2.2.2.2.2.2.2.2.2.2.2.2.2.2.2.2.2.2.2.2.2.2.2.2.2⟩, ⟨rfl, rfl, rfl, rfl, rfl, rfl, rfl, rfl, rfl, rfl, rfl, rfl, rfl, rfl, rfl, rfl, rfl, rfl, rfl, rfl, rfl, rfl, rfl, rfl⟩, hP1, hD1⟩, hF⟩
  · exact fun q h => h
set_option maxHeartbeats 4000000 in
set_option maxRecDepth 100000 in
theorem uX12_both (l : Launch) (dC : Nat → ClassId) (dI : Nat → Nat → Nat) (sz : Nat) (hm : Nat) (mi : Nat → Int32) (mr : Nat → Nat) (km : Nat → ClassId) (fm : Nat → Nat → Int32) (hI : MI mi fm) (p1 : Int32) (p2 : Int32) : Met l yX12_both (.code yX12_both cX12_both 3 (some .int) :: wsGB) ({ frames := 4, cells := 0, slots := 0, locals := 95 }) (va_Pc [.ref hm, .int p1, .int p2] (fun U => U.heap.size = sz ∧ va_P (dC, dI) vwCl (MW hm mi mr km fm) U.heap ∧ va_K (dC, dI) vwCl (MT km) U ∧ va_D (fun _ => True) (MW hm mi mr km fm))) (va_Qi (fun (r : Int32) (u : Unit) => True) (fun _ t => MB dC dI hm mi mr km fm sz (fun v f => styM mi fm v f) t) (va_A (MW hm mi mr km fm) sz)) 0 0 (va_A (MW hm mi mr km fm) sz) := by
  refine gz_mono (sX12_both l dC dI sz hm mi mr km (fm 14) (fm 15) (fm 16) (fm 17) (fm 18) (fm 19) (fm 4) (fm 7) (fm 2) (fm 5) (fm 6) (fm 3) (fm 0) (fm 1) (fm 8) (fm 9) (fm 10) (fm 11) (fm 12) (fm 13) (fm 20) (fm 21) (fm 22) (fm 23) p1 p2 hI.1 hI.2.1 hI.2.2.1 hI.2.2.2.1 hI.2.2.2.2.1 hI.2.2.2.2.2.1 hI.2.2.2.2.2.2.1 hI.2.2.2.2.2.2.2.1 hI.2.2.2.2.2.2.2.2.1 hI.2.2.2.2.2.2.2.2.2.1 hI.2.2.2.2.2.2.2.2.2.2.1 hI.2.2.2.2.2.2.2.2.2.2.2.1 hI.2.2.2.2.2.2.2.2.2.2.2.2.2.1 hI.2.2.2.2.2.2.2.2.2.2.2.2.2.2.1 hI.2.2.2.2.2.2.2.2.2.2.2.2.2.2.2.1 hI.2.2.2.2.2.2.2.2.2.2.2.2.2.2.2.2.1 hI.2.2.2.2.2.2.2.2.2.2.2.2.2.2.2.2.2.1 hI.2.2.2.2.2.2.2.2.2.2.2.2.2.2.2.2.2.2.1 hI.2.2.2.2.2.2.2.2.2.2.2.2.2.2.2.2.2.2.2.2.2.2.2.2.2.2.1 hI.2.2.2.2.2.2.2.2.2.2.2.2.2.2.2.2.2.2.2.2.1 hI.2.2.2.2.2.2.2.2.2.2.2.2.2.2.2.2.2.2.2.2.2.2.2.1 hI.2.2.2.2.2.2.2.2.2.2.2.2.2.2.2.2.2.2.2.1 hI.2.2.2.2.2.2.2.2.2.2.2.2.2.2.2.2.2.2.2.2.2.1 hI.2.2.2.2.2.2.2.2.2.2.2.2.2.2.2.2.2.2.2.2.2.2.1) ?_ ?_ ?_
  · rintro args s ⟨rfl, hsz, hP, hK, hD⟩
    exact ⟨rfl, hsz, hP, hK, hD⟩
  · rintro args s o t ⟨rfl, hsz, hP, hK, hD⟩ ⟨⟨r, u, ho, hw, hB⟩, hF⟩
    obtain ⟨w0_37, z1, z2, z3, z4, hB⟩ := hB
    obtain ⟨gw0_37, hP1, hD1⟩ := hB
    subst hsz
    exact ⟨⟨r, (), ho, trivial, (upd mi 37 w0_37), (updF (updF (updF (updF fm 14 z1) 15 z2) 16 z3) 17 z4), ⟨hI.1, hI.2.1, hI.2.2.1, hI.2.2.2.1, hI.2.2.2.2.1, hI.2.2.2.2.2.1, hI.2.2.2.2.2.2.1, hI.2.2.2.2.2.2.2.1, hI.2.2.2.2.2.2.2.2.1, hI.2.2.2.2.2.2.2.2.2.1, hI.2.2.2.2.2.2.2.2.2.2.1, hI.2.2.2.2.2.2.2.2.2.2.2.1, hI.2.2.2.2.2.2.2.2.2.2.2.2.1, hI.2.2.2.2.2.2.2.2.2.2.2.2.2.1, gw0_37, hI.2.2.2.2.2.2.2.2.2.2.2.2.2.2.2.1, hI.2.2.2.2.2.2.2.2.2.2.2.2.2.2.2.2.1, hI.2.2.2.2.2.2.2.2.2.2.2.2.2.2.2.2.2.1, hI.2.2.2.2.2.2.2.2.2.2.2.2.2.2.2.2.2.2.1, hI.2.2.2.2.2.2.2.2.2.2.2.2.2.2.2.2.2.2.2.1, hI.2.2.2.2.2.2.2.2.2.2.2.2.2.2.2.2.2.2.2.2.1, hI.2.2.2.2.2.2.2.2.2.2.2.2.2.2.2.2.2.2.2.2.2.1, hI.2.2.2.2.2.2.2.2.2.2.2.2.2.2.2.2.2.2.2.2.2.2.1, hI.2.2.2.2.2.2.2.2.2.2.2.2.2.2.2.2.2.2.2.2.2.2.2.1, hI.2.2.2.2.2.2.2.2.2.2.2.2.2.2.2.2.2.2.2.2.2.2.2.2.1, hI.2.2.2.2.2.2.2.2.2.2.2.2.2.2.2.2.2.2.2.2.2.2.2.2.2.1, hI.2.2.2.2.2.2.2.2.2.2.2.2.2.2.2.2.2.2.2.2.2.2.2.2.2.2.1, hI.2.2.2.2.2.2.2.2.2.2.2.2.2.2.2.2.2.2.2.2.2.2.2.2.2.2.2.1, hI.2.2.2.2.2.2.2.2.2.2.2.2.2.2.2.2.2.2.2.2.2.2.2.2.2.2.2.2⟩, ⟨rfl, rfl, rfl, rfl, rfl, rfl, rfl, rfl, rfl, rfl, rfl, rfl, rfl, rfl, rfl, rfl, rfl, rfl, rfl, rfl, rfl, rfl, rfl, rfl⟩, hP1, hD1⟩, hF⟩
  · exact fun q h => h
set_option maxHeartbeats 4000000 in
set_option maxRecDepth 100000 in
theorem uX12_nearest (l : Launch) (dC : Nat → ClassId) (dI : Nat → Nat → Nat) (sz : Nat) (hm : Nat) (mi : Nat → Int32) (mr : Nat → Nat) (km : Nat → ClassId) (fm : Nat → Nat → Int32) (hI : MI mi fm) (p1 : Int32) (p2 : Int32) : Met l yX12_nearest (.code yX12_nearest cX12_nearest 4 (some .int) :: wsGB) ({ frames := 5, cells := 0, slots := 0, locals := 119 }) (va_Pc [.ref hm, .int p1, .int p2] (fun U => U.heap.size = sz ∧ va_P (dC, dI) vwCl (MW hm mi mr km fm) U.heap ∧ va_K (dC, dI) vwCl (MT km) U ∧ va_D (fun _ => True) (MW hm mi mr km fm))) (va_Qi (fun (r : Int32) (u : Unit) => True) (fun _ t => MB dC dI hm mi mr km fm sz (fun v f => styM mi fm v f) t) (va_A (MW hm mi mr km fm) sz)) 0 0 (va_A (MW hm mi mr km fm) sz) := by
  refine gz_mono (sX12_nearest l dC dI sz hm mi mr km (fm 14) (fm 15) (fm 16) (fm 17) (fm 18) (fm 19) (fm 4) (fm 7) (fm 2) (fm 5) (fm 6) (fm 3) (fm 0) (fm 1) (fm 22) (fm 8) (fm 9) (fm 10) (fm 11) (fm 12) (fm 13) (fm 20) (fm 21) (fm 23) p1 p2 hI.1 hI.2.1 hI.2.2.1 hI.2.2.2.1 hI.2.2.2.2.1 hI.2.2.2.2.2.1 hI.2.2.2.2.2.2.1 hI.2.2.2.2.2.2.2.1 hI.2.2.2.2.2.2.2.2.1 hI.2.2.2.2.2.2.2.2.2.1 hI.2.2.2.2.2.2.2.2.2.2.1 hI.2.2.2.2.2.2.2.2.2.2.2.1 hI.2.2.2.2.2.2.2.2.2.2.2.2.2.1 hI.2.2.2.2.2.2.2.2.2.2.2.2.2.2.1 hI.2.2.2.2.2.2.2.2.2.2.2.2.2.2.2.1 hI.2.2.2.2.2.2.2.2.2.2.2.2.2.2.2.2.1 hI.2.2.2.2.2.2.2.2.2.2.2.2.2.2.2.2.2.1 hI.2.2.2.2.2.2.2.2.2.2.2.2.2.2.2.2.2.2.1 hI.2.2.2.2.2.2.2.2.2.2.2.2.2.2.2.2.2.2.2.2.2.2.2.2.2.2.1 hI.2.2.2.2.2.2.2.2.2.2.2.2.2.2.2.2.2.2.2.2.1 hI.2.2.2.2.2.2.2.2.2.2.2.2.2.2.2.2.2.2.2.2.2.2.2.1 hI.2.2.2.2.2.2.2.2.2.2.2.2.2.2.2.2.2.2.2.1 hI.2.2.2.2.2.2.2.2.2.2.2.2.2.2.2.2.2.2.2.2.2.1 hI.2.2.2.2.2.2.2.2.2.2.2.2.2.2.2.2.2.2.2.2.2.2.1) ?_ ?_ ?_
  · rintro args s ⟨rfl, hsz, hP, hK, hD⟩
    exact ⟨rfl, hsz, hP, hK, hD⟩
  · rintro args s o t ⟨rfl, hsz, hP, hK, hD⟩ ⟨⟨r, u, ho, hw, hB⟩, hF⟩
    obtain ⟨w0_37, w0_41, w0_54, z1, z2, z3, z4, z5, z6, z15, hB⟩ := hB
    obtain ⟨gw0_37, gw0_41, gz6, hP1, hD1⟩ := hB
    subst hsz
    exact ⟨⟨r, (), ho, trivial, (upd (upd (upd mi 37 w0_37) 41 w0_41) 54 w0_54), (updF (updF (updF (updF (updF (updF (updF fm 14 z1) 15 z2) 16 z3) 17 z4) 18 z5) 19 z6) 22 z15), ⟨hI.1, hI.2.1, hI.2.2.1, hI.2.2.2.1, hI.2.2.2.2.1, hI.2.2.2.2.2.1, hI.2.2.2.2.2.2.1, hI.2.2.2.2.2.2.2.1, hI.2.2.2.2.2.2.2.2.1, hI.2.2.2.2.2.2.2.2.2.1, hI.2.2.2.2.2.2.2.2.2.2.1, hI.2.2.2.2.2.2.2.2.2.2.2.1, hI.2.2.2.2.2.2.2.2.2.2.2.2.1, hI.2.2.2.2.2.2.2.2.2.2.2.2.2.1, gw0_37, gw0_41, hI.2.2.2.2.2.2.2.2.2.2.2.2.2.2.2.2.1, hI.2.2.2.2.2.2.2.2.2.2.2.2.2.2.2.2.2.1, hI.2.2.2.2.2.2.2.2.2.2.2.2.2.2.2.2.2.2.1, hI.2.2.2.2.2.2.2.2.2.2.2.2.2.2.2.2.2.2.2.1, hI.2.2.2.2.2.2.2.2.2.2.2.2.2.2.2.2.2.2.2.2.1, hI.2.2.2.2.2.2.2.2.2.2.2.2.2.2.2.2.2.2.2.2.2.1, hI.2.2.2.2.2.2.2.2.2.2.2.2.2.2.2.2.2.2.2.2.2.2.1, hI.2.2.2.2.2.2.2.2.2.2.2.2.2.2.2.2.2.2.2.2.2.2.2.1, hI.2.2.2.2.2.2.2.2.2.2.2.2.2.2.2.2.2.2.2.2.2.2.2.2.1, hI.2.2.2.2.2.2.2.2.2.2.2.2.2.2.2.2.2.2.2.2.2.2.2.2.2.1, gz6, hI.2.2.2.2.2.2.2.2.2.2.2.2.2.2.2.2.2.2.2.2.2.2.2.2.2.2.2.1, hI.2.2.2.2.2.2.2.2.2.2.2.2.2.2.2.2.2.2.2.2.2.2.2.2.2.2.2.2⟩, ⟨rfl, rfl, rfl, rfl, rfl, rfl, rfl, rfl, rfl, rfl, rfl, rfl, rfl, rfl, rfl, rfl, rfl, rfl, rfl, rfl, rfl, rfl, rfl, rfl⟩, hP1, hD1⟩, hF⟩
  · exact fun q h => h
set_option maxHeartbeats 4000000 in
set_option maxRecDepth 100000 in
theorem uX12_backed (l : Launch) (dC : Nat → ClassId) (dI : Nat → Nat → Nat) (sz : Nat) (hm : Nat) (mi : Nat → Int32) (mr : Nat → Nat) (km : Nat → ClassId) (fm : Nat → Nat → Int32) (hI : MI mi fm) (p1 : Int32) (p2 : Int32) : Met l yX12_backed (.code yX12_backed cX12_backed 5 (some .int) :: wsGB) ({ frames := 3, cells := 0, slots := 0, locals := 76 }) (va_Pc [.ref hm, .int p1, .int p2] (fun U => U.heap.size = sz ∧ va_P (dC, dI) vwCl (MW hm mi mr km fm) U.heap ∧ va_K (dC, dI) vwCl (MT km) U ∧ va_D (fun _ => True) (MW hm mi mr km fm))) (va_Qi (fun (r : Int32) (u : Unit) => True) (fun _ t => MB dC dI hm mi mr km fm sz (fun v f => styM mi fm v f) t) (va_A (MW hm mi mr km fm) sz)) 0 0 (va_A (MW hm mi mr km fm) sz) := by
  refine gz_mono (sX12_backed l dC dI sz hm mi mr km (fm 14) (fm 15) (fm 16) (fm 17) (fm 18) (fm 19) (fm 4) (fm 7) (fm 2) (fm 5) (fm 6) (fm 3) (fm 0) (fm 1) (fm 22) (fm 8) (fm 9) (fm 10) (fm 11) (fm 12) (fm 13) (fm 20) (fm 21) (fm 23) p1 p2 hI.1 hI.2.1 hI.2.2.1 hI.2.2.2.1 hI.2.2.2.2.1 hI.2.2.2.2.2.1 hI.2.2.2.2.2.2.1 hI.2.2.2.2.2.2.2.1 hI.2.2.2.2.2.2.2.2.1 hI.2.2.2.2.2.2.2.2.2.1 hI.2.2.2.2.2.2.2.2.2.2.1 hI.2.2.2.2.2.2.2.2.2.2.2.1 hI.2.2.2.2.2.2.2.2.2.2.2.2.2.1 hI.2.2.2.2.2.2.2.2.2.2.2.2.2.2.1 hI.2.2.2.2.2.2.2.2.2.2.2.2.2.2.2.1 hI.2.2.2.2.2.2.2.2.2.2.2.2.2.2.2.2.1 hI.2.2.2.2.2.2.2.2.2.2.2.2.2.2.2.2.2.1 hI.2.2.2.2.2.2.2.2.2.2.2.2.2.2.2.2.2.2.1 hI.2.2.2.2.2.2.2.2.2.2.2.2.2.2.2.2.2.2.2.2.2.2.2.2.2.2.1 hI.2.2.2.2.2.2.2.2.2.2.2.2.2.2.2.2.2.2.2.2.1 hI.2.2.2.2.2.2.2.2.2.2.2.2.2.2.2.2.2.2.2.2.2.2.2.1 hI.2.2.2.2.2.2.2.2.2.2.2.2.2.2.2.2.2.2.2.1 hI.2.2.2.2.2.2.2.2.2.2.2.2.2.2.2.2.2.2.2.2.2.1 hI.2.2.2.2.2.2.2.2.2.2.2.2.2.2.2.2.2.2.2.2.2.2.1) ?_ ?_ ?_
  · rintro args s ⟨rfl, hsz, hP, hK, hD⟩
    exact ⟨rfl, hsz, hP, hK, hD⟩
  · rintro args s o t ⟨rfl, hsz, hP, hK, hD⟩ ⟨⟨r, u, ho, hw, hB⟩, hF⟩
    obtain ⟨w0_54, z15, hB⟩ := hB
    obtain ⟨hP1, hD1⟩ := hB
    subst hsz
    exact ⟨⟨r, (), ho, trivial, (upd mi 54 w0_54), (updF fm 22 z15), ⟨hI.1, hI.2.1, hI.2.2.1, hI.2.2.2.1, hI.2.2.2.2.1, hI.2.2.2.2.2.1, hI.2.2.2.2.2.2.1, hI.2.2.2.2.2.2.2.1, hI.2.2.2.2.2.2.2.2.1, hI.2.2.2.2.2.2.2.2.2.1, hI.2.2.2.2.2.2.2.2.2.2.1, hI.2.2.2.2.2.2.2.2.2.2.2.1, hI.2.2.2.2.2.2.2.2.2.2.2.2.1, hI.2.2.2.2.2.2.2.2.2.2.2.2.2.1, hI.2.2.2.2.2.2.2.2.2.2.2.2.2.2.1, hI.2.2.2.2.2.2.2.2.2.2.2.2.2.2.2.1, hI.2.2.2.2.2.2.2.2.2.2.2.2.2.2.2.2.1, hI.2.2.2.2.2.2.2.2.2.2.2.2.2.2.2.2.2.1, hI.2.2.2.2.2.2.2.2.2.2.2.2.2.2.2.2.2.2.1, hI.2.2.2.2.2.2.2.2.2.2.2.2.2.2.2.2.2.2.2.1, hI.2.2.2.2.2.2.2.2.2.2.2.2.2.2.2.2.2.2.2.2.1, hI.2.2.2.2.2.2.2.2.2.2.2.2.2.2.2.2.2.2.2.2.2.1, hI.2.2.2.2.2.2.2.2.2.2.2.2.2.2.2.2.2.2.2.2.2.2.1, hI.2.2.2.2.2.2.2.2.2.2.2.2.2.2.2.2.2.2.2.2.2.2.2.1, hI.2.2.2.2.2.2.2.2.2.2.2.2.2.2.2.2.2.2.2.2.2.2.2.2.1, hI.2.2.2.2.2.2.2.2.2.2.2.2.2.2.2.2.2.2.2.2.2.2.2.2.2.1, hI.2.2.2.2.2.2.2.2.2.2.2.2.2.2.2.2.2.2.2.2.2.2.2.2.2.2.1, hI.2.2.2.2.2.2.2.2.2.2.2.2.2.2.2.2.2.2.2.2.2.2.2.2.2.2.2.1, hI.2.2.2.2.2.2.2.2.2.2.2.2.2.2.2.2.2.2.2.2.2.2.2.2.2.2.2.2⟩, ⟨rfl, rfl, rfl, rfl, rfl, rfl, rfl, rfl, rfl, rfl, rfl, rfl, rfl, rfl, rfl, rfl, rfl, rfl, rfl, rfl, rfl, rfl, rfl, rfl⟩, hP1, hD1⟩, hF⟩
  · exact fun q h => h
set_option maxHeartbeats 4000000 in
set_option maxRecDepth 100000 in
theorem uX12_tell (l : Launch) (dC : Nat → ClassId) (dI : Nat → Nat → Nat) (sz : Nat) (hm : Nat) (mi : Nat → Int32) (mr : Nat → Nat) (km : Nat → ClassId) (fm : Nat → Nat → Int32) (hI : MI mi fm) (p1 : Int32) : Met l yX12_tell (.code yX12_tell cX12_tell 3 (some .int) :: wsGB) ({ frames := 6, cells := 0, slots := 0, locals := 140 }) (va_Pc [.ref hm, .int p1] (fun U => U.heap.size = sz ∧ va_P (dC, dI) vwCl (MW hm mi mr km fm) U.heap ∧ va_K (dC, dI) vwCl (MT km) U ∧ va_D (fun _ => True) (MW hm mi mr km fm))) (va_Qi (fun (r : Int32) (u : Unit) => True) (fun _ t => MB dC dI hm mi mr km fm sz (fun v f => styM mi fm v f) t) (va_A (MW hm mi mr km fm) sz)) 0 0 (va_A (MW hm mi mr km fm) sz) := by
  refine gz_mono (sX12_tell l dC dI sz hm mi mr km (fm 14) (fm 15) (fm 16) (fm 17) (fm 18) (fm 19) (fm 4) (fm 7) (fm 2) (fm 5) (fm 6) (fm 3) (fm 0) (fm 1) (fm 20) (fm 23) (fm 8) (fm 9) (fm 10) (fm 11) (fm 12) (fm 13) (fm 21) (fm 22) p1 hI.1 hI.2.1 hI.2.2.1 hI.2.2.2.1 hI.2.2.2.2.1 hI.2.2.2.2.2.1 hI.2.2.2.2.2.2.1 hI.2.2.2.2.2.2.2.1 hI.2.2.2.2.2.2.2.2.1 hI.2.2.2.2.2.2.2.2.2.1 hI.2.2.2.2.2.2.2.2.2.2.1 hI.2.2.2.2.2.2.2.2.2.2.2.1 hI.2.2.2.2.2.2.2.2.2.2.2.2.2.1 hI.2.2.2.2.2.2.2.2.2.2.2.2.2.2.1 hI.2.2.2.2.2.2.2.2.2.2.2.2.2.2.2.1 hI.2.2.2.2.2.2.2.2.2.2.2.2.2.2.2.2.1 hI.2.2.2.2.2.2.2.2.2.2.2.2.2.2.2.2.2.1 hI.2.2.2.2.2.2.2.2.2.2.2.2.2.2.2.2.2.2.1 hI.2.2.2.2.2.2.2.2.2.2.2.2.2.2.2.2.2.2.2.2.2.2.2.2.2.2.1 hI.2.2.2.2.2.2.2.2.2.2.2.2.2.2.2.2.2.2.2.2.1 hI.2.2.2.2.2.2.2.2.2.2.2.2.2.2.2.2.2.2.2.2.2.2.2.1 hI.2.2.2.2.2.2.2.2.2.2.2.2.2.2.2.2.2.2.2.1 hI.2.2.2.2.2.2.2.2.2.2.2.2.2.2.2.2.2.2.2.2.2.1 hI.2.2.2.2.2.2.2.2.2.2.2.2.2.2.2.2.2.2.2.2.2.2.1) ?_ ?_ ?_
  · rintro args s ⟨rfl, hsz, hP, hK, hD⟩
    exact ⟨rfl, hsz, hP, hK, hD⟩
  · rintro args s o t ⟨rfl, hsz, hP, hK, hD⟩ ⟨⟨r, u, ho, hw, hB⟩, hF⟩
    obtain ⟨w0_37, w0_41, w0_56, z1, z2, z3, z4, z5, z6, z15, z16, hB⟩ := hB
    obtain ⟨gw0_37, gw0_41, gw0_56, gz6, hP1, hD1⟩ := hB
    subst hsz
    exact ⟨⟨r, (), ho, trivial, (upd (upd (upd mi 37 w0_37) 41 w0_41) 56 w0_56), (updF (updF (updF (updF (updF (updF (updF (updF fm 14 z1) 15 z2) 16 z3) 17 z4) 18 z5) 19 z6) 20 z15) 23 z16), ⟨hI.1, hI.2.1, hI.2.2.1, hI.2.2.2.1, hI.2.2.2.2.1, hI.2.2.2.2.2.1, hI.2.2.2.2.2.2.1, hI.2.2.2.2.2.2.2.1, hI.2.2.2.2.2.2.2.2.1, hI.2.2.2.2.2.2.2.2.2.1, hI.2.2.2.2.2.2.2.2.2.2.1, hI.2.2.2.2.2.2.2.2.2.2.2.1, hI.2.2.2.2.2.2.2.2.2.2.2.2.1, hI.2.2.2.2.2.2.2.2.2.2.2.2.2.1, gw0_37, gw0_41, hI.2.2.2.2.2.2.2.2.2.2.2.2.2.2.2.2.1, hI.2.2.2.2.2.2.2.2.2.2.2.2.2.2.2.2.2.1, gw0_56, hI.2.2.2.2.2.2.2.2.2.2.2.2.2.2.2.2.2.2.2.1, hI.2.2.2.2.2.2.2.2.2.2.2.2.2.2.2.2.2.2.2.2.1, hI.2.2.2.2.2.2.2.2.2.2.2.2.2.2.2.2.2.2.2.2.2.1, hI.2.2.2.2.2.2.2.2.2.2.2.2.2.2.2.2.2.2.2.2.2.2.1, hI.2.2.2.2.2.2.2.2.2.2.2.2.2.2.2.2.2.2.2.2.2.2.2.1, hI.2.2.2.2.2.2.2.2.2.2.2.2.2.2.2.2.2.2.2.2.2.2.2.2.1, hI.2.2.2.2.2.2.2.2.2.2.2.2.2.2.2.2.2.2.2.2.2.2.2.2.2.1, gz6, hI.2.2.2.2.2.2.2.2.2.2.2.2.2.2.2.2.2.2.2.2.2.2.2.2.2.2.2.1, hI.2.2.2.2.2.2.2.2.2.2.2.2.2.2.2.2.2.2.2.2.2.2.2.2.2.2.2.2⟩, ⟨rfl, rfl, rfl, rfl, rfl, rfl, rfl, rfl, rfl, rfl, rfl, rfl, rfl, rfl, rfl, rfl, rfl, rfl, rfl, rfl, rfl, rfl, rfl, rfl⟩, hP1, hD1⟩, hF⟩
  · exact fun q h => h
theorem gz_Pq {D : va_G} {cl : List vw_C} {ws : va_W} {H : Heap} {a n : Nat} {c : ClassId} {f g : Nat → Option Nat} (hP : va_P D cl ws H) (k : Nat) (hk : ws[k]? = some (a, .inl (c, n, .inr (.inr (.inr (.inr f)))))) (h : ∀ i, i < n → f i = g i) : va_P D cl (ws.set k (a, .inl (c, n, .inr (.inr (.inr (.inr g)))))) H := by
  intro j q hj
  by_cases hjk : j = k
  · subst hjk
    rw [List.getElem?_set_self (List.getElem?_eq_some_iff.mp hk).1] at hj
    cases hj
    have h1 : H[a]? = some (vp_cell c (n, .inr (.inr (.inr (.inr f))))) := hP j _ hk
    show H[a]? = some (vp_cell c (n, .inr (.inr (.inr (.inr g)))))
    rw [h1, vp_cell_q, vp_cell_q]
    unfold arrV
    congr 3
    funext x
    show va_rf (f x.val) = va_rf (g x.val)
    rw [h x.val x.isLt]
  · rw [List.getElem?_set_ne (Ne.symm hjk)] at hj
    exact hP j q hj
theorem gz_Dq {A : Nat → Prop} {ws : va_W} {a n : Nat} {c : ClassId} {f : Nat → Option Nat} (hD : va_D A ws) (k : Nat) {g : Nat → Option Nat} (hk : ws[k]? = some (a, .inl (c, n, .inr (.inr (.inr (.inr f)))))) : va_D A (ws.set k (a, .inl (c, n, .inr (.inr (.inr (.inr g)))))) := hD.set hk
theorem dfX3 : ∀ j, j < 5 → defaultValue (tyX3 j) = vp_V [.int 0, .int 0, .int 0, .null, .null] j := by decide +kernel
theorem dfX5 : ∀ j, j < 2 → defaultValue (tyX5 j) = vp_V [.int 0, .int 0] j := by decide +kernel
theorem dfX7 : ∀ j, j < 6 → defaultValue (tyX7 j) = vp_V [.int 0, .int 0, .int 0, .int 0, .int 0, .int 0] j := by decide +kernel
theorem dfX2 : ∀ j, j < 4 → defaultValue (tyX2 j) = vp_V [.int 0, .int 0, .int 0, .int 0] j := by decide +kernel
theorem dfX10 : ∀ j, j < 2 → defaultValue (tyX10 j) = vp_V [.null, .int 0] j := by decide +kernel
theorem dfX0 : ∀ j, j < 13 → defaultValue (tyX0 j) = vp_V [.int 0, .int 0, .int 0, .int 0, .int 0, .int 0, .int 0, .int 0, .int 0, .int 0, .null, .null, .null] j := by decide +kernel
theorem dfX6 : ∀ j, j < 7 → defaultValue (tyX6 j) = vp_V [.null, .null, .int 0, .int 0, .int 0, .int 0, .int 0] j := by decide +kernel
theorem dfX1 : ∀ j, j < 7 → defaultValue (tyX1 j) = vp_V [.null, .null, .null, .null, .null, .int 0, .int 0] j := by decide +kernel
theorem dfX9 : ∀ j, j < 6 → defaultValue (tyX9 j) = vp_V [.null, .null, .null, .int 0, .int 0, .int 0] j := by decide +kernel
theorem dfX8 : ∀ j, j < 5 → defaultValue (tyX8 j) = vp_V [.null, .null, .int 0, .int 0, .int 0] j := by decide +kernel
theorem dfX4 : ∀ j, j < 3 → defaultValue (tyX4 j) = vp_V [.null, .null, .int 0] j := by decide +kernel
theorem dfX11 : ∀ j, j < 16 → defaultValue (tyX11 j) = vp_V [.null, .null, .null, .null, .null, .null, .null, .null, .null, .null, .null, .int 0, .int 0, .int 0, .int 0, .int 0] j := by decide +kernel
theorem dfX12 : ∀ j, j < 57 → defaultValue (tyX12 j) = vp_V [.int 0, .int 0, .int 0, .int 0, .int 0, .int 0, .int 0, .int 0, .null, .null, .int 0, .null, .null, .null, .null, .null, .null, .int 0, .null, .null, .null, .null, .null, .int 0, .int 0, .null, .int 0, .int 0, .int 0, .int 0, .int 0, .int 0, .int 0, .int 0, .null, .null, .null, .int 0, .null, .null, .null, .int 0, .int 0, .int 0, .int 0, .int 0, .null, .int 0, .int 0, .int 0, .int 0, .int 0, .null, .null, .int 0, .null, .int 0] j := by decide +kernel
noncomputable def lsX5_init : List (Nat × Instr × Nat) := [(0, .aload_n 0, 1), (1, .invokespecial 1, 3), (4, .return_, 1)]
theorem dkX5_init : dkAll cX5_init lsX5_init = true := by decide +kernel
set_option maxHeartbeats 4000000 in
set_option maxRecDepth 100000 in
theorem fX5_init (l : Launch) (dC : Nat → ClassId) (dI : Nat → Nat → Nat) (h0 : Nat) : Met l yX5_init (.code yX5_init cX5_init 1 none :: wsGA) ({ frames := 1, cells := 0, slots := 0, locals := 12 }) (va_Pc [.ref h0] (fun U => va_P (dC, dI) vwCl [] U.heap ∧ va_K (dC, dI) vwCl [] U)) (va_Qv (fun (u : Unit) => True) (fun _ _ => True) (fun _ => False)) 0 0 (fun _ => False) := by
  refine Met.ofW (cc := cX5_init) (maxL := 1) (ret := none) (by decide) rfl ?_
  intro p e s m args below meth c s₁ B hml hv
  obtain ⟨rfl, hP, hK⟩ := hv
  have hx := B.exec
  have hb := B.bytes
  have hr := B.returns
  have hts := atoms_spec (ws := (.code yX5_init cX5_init 1 none :: wsGA)) B.pre
  have hown : s.vm.findClass RX5 = some m.cls := findClass_of_methodNamed B.named
  have hlocks := B.notSynchronized
  have hin : meth.name = "<init>" := (name_of_methodNamed B.named B.method).1
  have hS : va_S (fun _ => False) s.heap s.heap [] := va_S.rf
  have hl := lv_entry ([.ref h0]) (n := 1) (Nat.le_of_ble_eq_true rfl)
  rw [lg_entry_eq]
  generalize (lg_sl ([.ref h0]) ++ List.replicate (1 - (lg_sl ([.ref h0])).length) Slot.unset).toArray = ls at hl ⊢
  have hl : lv_has ls 1 [(0, .ref h0)] := hl
  refine lv_aload_n hx hb (dk_at dkX5_init 0 rfl) rfl (lv_at hl 0 rfl) ?_
  refine W.objInit hx hb hown (hts _ (List.mem_cons_of_mem _ mGA_83)) (hts _ (List.mem_cons_of_mem _ mGA_5)) (hts _ (List.mem_cons_of_mem _ mGA_6)) rfl (by rw [hml]; exact hl.1) rfl (dk_at dkX5_init 1 rfl) (Nat.le_of_ble_eq_true rfl) (Nat.le_of_ble_eq_true rfl) ?_
  refine W.eq (g2 := F0 m 4 ls []) rfl ?_
  exact W.vret hx hb hr (fun t ht hW => ⟨⟨(), rfl, trivial, trivial⟩, hS.F ht⟩) hS.2.2 (dk_at dkX5_init 2 rfl)
noncomputable def lsX7_init : List (Nat × Instr × Nat) := [(0, .aload_n 0, 1), (1, .invokespecial 1, 3), (4, .return_, 1)]
theorem dkX7_init : dkAll cX7_init lsX7_init = true := by decide +kernel
set_option maxHeartbeats 4000000 in
set_option maxRecDepth 100000 in
theorem fX7_init (l : Launch) (dC : Nat → ClassId) (dI : Nat → Nat → Nat) (h0 : Nat) : Met l yX7_init (.code yX7_init cX7_init 1 none :: wsGA) ({ frames := 1, cells := 0, slots := 0, locals := 12 }) (va_Pc [.ref h0] (fun U => va_P (dC, dI) vwCl [] U.heap ∧ va_K (dC, dI) vwCl [] U)) (va_Qv (fun (u : Unit) => True) (fun _ _ => True) (fun _ => False)) 0 0 (fun _ => False) := by
  refine Met.ofW (cc := cX7_init) (maxL := 1) (ret := none) (by decide) rfl ?_
  intro p e s m args below meth c s₁ B hml hv
  obtain ⟨rfl, hP, hK⟩ := hv
  have hx := B.exec
  have hb := B.bytes
  have hr := B.returns
  have hts := atoms_spec (ws := (.code yX7_init cX7_init 1 none :: wsGA)) B.pre
  have hown : s.vm.findClass RX7 = some m.cls := findClass_of_methodNamed B.named
  have hlocks := B.notSynchronized
  have hin : meth.name = "<init>" := (name_of_methodNamed B.named B.method).1
  have hS : va_S (fun _ => False) s.heap s.heap [] := va_S.rf
  have hl := lv_entry ([.ref h0]) (n := 1) (Nat.le_of_ble_eq_true rfl)
  rw [lg_entry_eq]
  generalize (lg_sl ([.ref h0]) ++ List.replicate (1 - (lg_sl ([.ref h0])).length) Slot.unset).toArray = ls at hl ⊢
  have hl : lv_has ls 1 [(0, .ref h0)] := hl
  refine lv_aload_n hx hb (dk_at dkX7_init 0 rfl) rfl (lv_at hl 0 rfl) ?_
  refine W.objInit hx hb hown (hts _ (List.mem_cons_of_mem _ mGA_86)) (hts _ (List.mem_cons_of_mem _ mGA_5)) (hts _ (List.mem_cons_of_mem _ mGA_6)) rfl (by rw [hml]; exact hl.1) rfl (dk_at dkX7_init 1 rfl) (Nat.le_of_ble_eq_true rfl) (Nat.le_of_ble_eq_true rfl) ?_
  refine W.eq (g2 := F0 m 4 ls []) rfl ?_
  exact W.vret hx hb hr (fun t ht hW => ⟨⟨(), rfl, trivial, trivial⟩, hS.F ht⟩) hS.2.2 (dk_at dkX7_init 2 rfl)
noncomputable def lsX2_init : List (Nat × Instr × Nat) := [(0, .aload_n 0, 1), (1, .invokespecial 1, 3), (4, .return_, 1)]
theorem dkX2_init : dkAll cX2_init lsX2_init = true := by decide +kernel
set_option maxHeartbeats 4000000 in
set_option maxRecDepth 100000 in
theorem fX2_init (l : Launch) (dC : Nat → ClassId) (dI : Nat → Nat → Nat) (h0 : Nat) : Met l yX2_init (.code yX2_init cX2_init 1 none :: wsGA) ({ frames := 1, cells := 0, slots := 0, locals := 12 }) (va_Pc [.ref h0] (fun U => va_P (dC, dI) vwCl [] U.heap ∧ va_K (dC, dI) vwCl [] U)) (va_Qv (fun (u : Unit) => True) (fun _ _ => True) (fun _ => False)) 0 0 (fun _ => False) := by
  refine Met.ofW (cc := cX2_init) (maxL := 1) (ret := none) (by decide) rfl ?_
  intro p e s m args below meth c s₁ B hml hv
  obtain ⟨rfl, hP, hK⟩ := hv
  have hx := B.exec
  have hb := B.bytes
  have hr := B.returns
  have hts := atoms_spec (ws := (.code yX2_init cX2_init 1 none :: wsGA)) B.pre
  have hown : s.vm.findClass RX2 = some m.cls := findClass_of_methodNamed B.named
  have hlocks := B.notSynchronized
  have hin : meth.name = "<init>" := (name_of_methodNamed B.named B.method).1
  have hS : va_S (fun _ => False) s.heap s.heap [] := va_S.rf
  have hl := lv_entry ([.ref h0]) (n := 1) (Nat.le_of_ble_eq_true rfl)
  rw [lg_entry_eq]
  generalize (lg_sl ([.ref h0]) ++ List.replicate (1 - (lg_sl ([.ref h0])).length) Slot.unset).toArray = ls at hl ⊢
  have hl : lv_has ls 1 [(0, .ref h0)] := hl
  refine lv_aload_n hx hb (dk_at dkX2_init 0 rfl) rfl (lv_at hl 0 rfl) ?_
  refine W.objInit hx hb hown (hts _ (List.mem_cons_of_mem _ mGA_89)) (hts _ (List.mem_cons_of_mem _ mGA_5)) (hts _ (List.mem_cons_of_mem _ mGA_6)) rfl (by rw [hml]; exact hl.1) rfl (dk_at dkX2_init 1 rfl) (Nat.le_of_ble_eq_true rfl) (Nat.le_of_ble_eq_true rfl) ?_
  refine W.eq (g2 := F0 m 4 ls []) rfl ?_
  exact W.vret hx hb hr (fun t ht hW => ⟨⟨(), rfl, trivial, trivial⟩, hS.F ht⟩) hS.2.2 (dk_at dkX2_init 2 rfl)
noncomputable def lsX3_init : List (Nat × Instr × Nat) := [(0, .aload_n 0, 1), (1, .invokespecial 3, 3), (4, .aload_n 0, 1), (5, .bipush 25, 2), (7, .newarray .int, 2), (9, .putfield 9, 3), (12, .aload_n 0, 1), (13, .sipush 275, 3), (16, .newarray .int, 2), (18, .putfield 15, 3), (21, .return_, 1)]
theorem dkX3_init : dkAll cX3_init lsX3_init = true := by decide +kernel
set_option maxHeartbeats 4000000 in
set_option maxRecDepth 100000 in
theorem fX3_init (l : Launch) (dC : Nat → ClassId) (dI : Nat → Nat → Nat) (sz : Nat) (h0 : Nat) : Met l yX3_init (.code yX3_init cX3_init 1 none :: wsGA) ({ frames := 1, cells := 2, slots := 300, locals := 12 }) (va_Pc [.ref h0] (fun U => U.heap.size = sz ∧ va_P (dC, dI) vwCl [(h0, .inr (3, [.int 0, .int 0, .int 0, .null, .null]))] U.heap ∧ va_K (dC, dI) vwCl [] U ∧ va_D (fun _ => True) [(h0, .inr (3, [.int 0, .int 0, .int 0, .null, .null]))])) (va_Qv (fun (u : Unit) => True) (fun _ t => ∃ (q : Nat → Nat) (kk : Nat → ClassId), va_P (dC, dI) vwCl [(h0, .inr (3, [.int 0, .int 0, .int 0, .ref (q 0), .ref (q 1)])), ((q 0), .inl ((kk 0), 25, .inl (fun _ => 0))), ((q 1), .inl ((kk 1), 275, .inl (fun _ => 0)))] t.heap ∧ va_K (dC, dI) vwCl [((kk 0), .int), ((kk 1), .int)] t ∧ va_D (va_A [(h0, .inr (3, [.int 0, .int 0, .int 0, .null, .null]))] sz) [(h0, .inr (3, [.int 0, .int 0, .int 0, .ref (q 0), .ref (q 1)])), ((q 0), .inl ((kk 0), 25, .inl (fun _ => 0))), ((q 1), .inl ((kk 1), 275, .inl (fun _ => 0)))]) (va_A [(h0, .inr (3, [.int 0, .int 0, .int 0, .null, .null]))] sz)) 2 300 (va_A [(h0, .inr (3, [.int 0, .int 0, .int 0, .null, .null]))] sz) := by
  refine Met.ofW (cc := cX3_init) (maxL := 1) (ret := none) (by decide) rfl ?_
  intro p e s m args below meth c s₁ B hml hv
  obtain ⟨rfl, hsz, hP, hK, hD0⟩ := hv
  have hx := B.exec
  have hb := B.bytes
  have hr := B.returns
  have hts := atoms_spec (ws := (.code yX3_init cX3_init 1 none :: wsGA)) B.pre
  have hown : s.vm.findClass RX3 = some m.cls := findClass_of_methodNamed B.named
  have hlocks := B.notSynchronized
  have hin : meth.name = "<init>" := (name_of_methodNamed B.named B.method).1
  subst hsz
  have hD := hD0.self (sz := s.heap.size)
  generalize hAe : va_A [(h0, .inr (3, [.int 0, .int 0, .int 0, .null, .null]))] s.heap.size = A at hD ⊢
  have hA : ∀ q : Nat, s.heap.size ≤ q → A q := fun q h => by rw [← hAe]; exact Or.inr h
  have hS : va_S A s.heap s.heap [] := va_S.rf
  have hl := lv_entry ([.ref h0]) (n := 1) (Nat.le_of_ble_eq_true rfl)
  rw [lg_entry_eq]
  generalize (lg_sl ([.ref h0]) ++ List.replicate (1 - (lg_sl ([.ref h0])).length) Slot.unset).toArray = ls at hl ⊢
  have hl : lv_has ls 1 [(0, .ref h0)] := hl
  refine lv_aload_n hx hb (dk_at dkX3_init 0 rfl) rfl (lv_at hl 0 rfl) ?_
  refine W.objInit hx hb hown (hts _ (List.mem_cons_of_mem _ mGA_93)) (hts _ (List.mem_cons_of_mem _ mGA_5)) (hts _ (List.mem_cons_of_mem _ mGA_6)) rfl (by rw [hml]; exact hl.1) rfl (dk_at dkX3_init 1 rfl) (Nat.le_of_ble_eq_true rfl) (Nat.le_of_ble_eq_true rfl) ?_
  refine W.eq (g2 := F0 m 4 ls []) rfl ?_
  refine lv_aload_n hx hb (dk_at dkX3_init 2 rfl) rfl (lv_at hl 0 rfl) ?_
  refine lv_bipush (v := 25) hx hb (dk_at dkX3_init 3 rfl) (by decide) ?_
  refine va_newa (atype := .int) (ty := .int) (a0 := (25, .inl (fun _ => 0))) hx hb (hts _ (List.mem_cons_of_mem _ mGA_37)) rfl hK hP hD hS hA (fun _ => rfl) (by decide) (by decide) (Nat.le_of_ble_eq_true rfl) (Nat.le_of_ble_eq_true rfl) (Nat.le_of_ble_eq_true rfl) (dk_at dkX3_init 4 rfl) (fun q_1 k_2 H hK hP hD hS => ?_)
  obtain ⟨hP, hD⟩ := gz_both (w := [(h0, .inr (3, [.int 0, .int 0, .int 0, .null, .null])), (q_1, .inl (k_2, 25, .inl (fun _ => 0)))]) hP hD
  have hK : va_K (dC, dI) vwCl [(k_2, .int)] s := hK
  refine W.widen (k := 1) (n := 25) (Nat.le_of_ble_eq_true rfl) (Nat.le_of_ble_eq_true rfl) ?_
  refine va_putF (D := (dC, dI)) (ci := 3) (v := .ref q_1) (ty := .array .int) (C := RX3) (T := TX3) (N := 5) hx hb hts (fun w h => List.mem_cons_of_mem _ (jnGA_X3 w h)) tyX3 tyX3_ok nmX3 hown hK hP hD hS 0 rfl rfl 3 (by decide) (hts _ (List.mem_cons_of_mem _ mGA_94)) (fun _ h9 => h9) rfl hin rfl (by decide +kernel) rfl rfl (Nat.le_of_ble_eq_true rfl) (dk_at dkX3_init 5 rfl) (fun H locs hP hD hS => ?_)
  obtain ⟨hP, hD⟩ := gz_both (w := [(h0, .inr (3, [.int 0, .int 0, .int 0, .ref q_1, .null])), (q_1, .inl (k_2, 25, .inl (fun _ => 0)))]) hP hD
  refine lv_aload_n hx hb (dk_at dkX3_init 6 rfl) rfl (lv_at hl 0 rfl) ?_
  refine lv_sipush (v := 275) hx hb (dk_at dkX3_init 7 rfl) (by decide) ?_
  refine va_newa (atype := .int) (ty := .int) (a0 := (275, .inl (fun _ => 0))) hx hb (hts _ (List.mem_cons_of_mem _ mGA_37)) rfl hK hP hD hS hA (fun _ => rfl) (by decide) (by decide) (Nat.le_of_ble_eq_true rfl) (Nat.le_of_ble_eq_true rfl) (Nat.le_of_ble_eq_true rfl) (dk_at dkX3_init 8 rfl) (fun q_3 k_4 H hK hP hD hS => ?_)
  obtain ⟨hP, hD⟩ := gz_both (w := [(h0, .inr (3, [.int 0, .int 0, .int 0, .ref q_1, .null])), (q_1, .inl (k_2, 25, .inl (fun _ => 0))), (q_3, .inl (k_4, 275, .inl (fun _ => 0)))]) hP hD
  have hK : va_K (dC, dI) vwCl [(k_2, .int), (k_4, .int)] s := hK
  refine W.widen (k := 2) (n := 300) (Nat.le_of_ble_eq_true rfl) (Nat.le_of_ble_eq_true rfl) ?_
  refine va_putF (D := (dC, dI)) (ci := 3) (v := .ref q_3) (ty := .array .int) (C := RX3) (T := TX3) (N := 5) hx hb hts (fun w h => List.mem_cons_of_mem _ (jnGA_X3 w h)) tyX3 tyX3_ok nmX3 hown hK hP hD hS 0 rfl rfl 4 (by decide) (hts _ (List.mem_cons_of_mem _ mGA_95)) (fun _ h9 => h9) rfl hin rfl (by decide +kernel) rfl rfl (Nat.le_of_ble_eq_true rfl) (dk_at dkX3_init 9 rfl) (fun H locs hP hD hS => ?_)
  obtain ⟨hP, hD⟩ := gz_both (w := [(h0, .inr (3, [.int 0, .int 0, .int 0, .ref q_1, .ref q_3])), (q_1, .inl (k_2, 25, .inl (fun _ => 0))), (q_3, .inl (k_4, 275, .inl (fun _ => 0)))]) hP hD
  have hP9 := hP.sub (ws' := [(h0, .inr (3, [.int 0, .int 0, .int 0, .ref q_1, .ref q_3])), (q_1, .inl (k_2, 25, .inl (fun _ => 0))), (q_3, .inl (k_4, 275, .inl (fun _ => 0)))]) [0, 1, 2] rfl
  have hD9 := hD.sub (ws' := [(h0, .inr (3, [.int 0, .int 0, .int 0, .ref q_1, .ref q_3])), (q_1, .inl (k_2, 25, .inl (fun _ => 0))), (q_3, .inl (k_4, 275, .inl (fun _ => 0)))]) [0, 1, 2] (by decide +kernel) rfl
  have hK9 := hK.sub (tys' := [(k_2, .int), (k_4, .int)]) [0, 1] rfl
  exact W.vret hx hb hr (fun t ht hW => ⟨⟨(), rfl, trivial, (fun n => [q_1, q_3].getD n 0), (fun n => [k_2, k_4].getD n k_2), by rw [ht]; exact hP9, va_K.moved hW.alike hK9, hD9⟩, hS.F ht⟩) hS.2.2 (dk_at dkX3_init 10 rfl)
noncomputable def lsX9_init : List (Nat × Instr × Nat) := [(0, .aload_n 0, 1), (1, .invokespecial 3, 3), (4, .aload_n 0, 1), (5, .sipush 3575, 3), (8, .newarray .int, 2), (10, .putfield 9, 3), (13, .aload_n 0, 1), (14, .sipush 3575, 3), (17, .newarray .int, 2), (19, .putfield 15, 3), (22, .aload_n 0, 1), (23, .sipush 325, 3), (26, .newarray .int, 2), (28, .putfield 18, 3), (31, .return_, 1)]
theorem dkX9_init : dkAll cX9_init lsX9_init = true := by decide +kernel
set_option maxHeartbeats 4000000 in
set_option maxRecDepth 100000 in
theorem fX9_init (l : Launch) (dC : Nat → ClassId) (dI : Nat → Nat → Nat) (sz : Nat) (h0 : Nat) : Met l yX9_init (.code yX9_init cX9_init 1 none :: wsGA) ({ frames := 1, cells := 3, slots := 7475, locals := 12 }) (va_Pc [.ref h0] (fun U => U.heap.size = sz ∧ va_P (dC, dI) vwCl [(h0, .inr (9, [.null, .null, .null, .int 0, .int 0, .int 0]))] U.heap ∧ va_K (dC, dI) vwCl [] U ∧ va_D (fun _ => True) [(h0, .inr (9, [.null, .null, .null, .int 0, .int 0, .int 0]))])) (va_Qv (fun (u : Unit) => True) (fun _ t => ∃ (q : Nat → Nat) (kk : Nat → ClassId), va_P (dC, dI) vwCl [(h0, .inr (9, [.ref (q 0), .ref (q 1), .ref (q 2), .int 0, .int 0, .int 0])), ((q 0), .inl ((kk 0), 3575, .inl (fun _ => 0))), ((q 1), .inl ((kk 1), 3575, .inl (fun _ => 0))), ((q 2), .inl ((kk 2), 325, .inl (fun _ => 0)))] t.heap ∧ va_K (dC, dI) vwCl [((kk 0), .int), ((kk 1), .int), ((kk 2), .int)] t ∧ va_D (va_A [(h0, .inr (9, [.null, .null, .null, .int 0, .int 0, .int 0]))] sz) [(h0, .inr (9, [.ref (q 0), .ref (q 1), .ref (q 2), .int 0, .int 0, .int 0])), ((q 0), .inl ((kk 0), 3575, .inl (fun _ => 0))), ((q 1), .inl ((kk 1), 3575, .inl (fun _ => 0))), ((q 2), .inl ((kk 2), 325, .inl (fun _ => 0)))]) (va_A [(h0, .inr (9, [.null, .null, .null, .int 0, .int 0, .int 0]))] sz)) 3 7475 (va_A [(h0, .inr (9, [.null, .null, .null, .int 0, .int 0, .int 0]))] sz) := by
  refine Met.ofW (cc := cX9_init) (maxL := 1) (ret := none) (by decide) rfl ?_
  intro p e s m args below meth c s₁ B hml hv
  obtain ⟨rfl, hsz, hP, hK, hD0⟩ := hv
  have hx := B.exec
  have hb := B.bytes
  have hr := B.returns
  have hts := atoms_spec (ws := (.code yX9_init cX9_init 1 none :: wsGA)) B.pre
  have hown : s.vm.findClass RX9 = some m.cls := findClass_of_methodNamed B.named
  have hlocks := B.notSynchronized
  have hin : meth.name = "<init>" := (name_of_methodNamed B.named B.method).1
  subst hsz
  have hD := hD0.self (sz := s.heap.size)
  generalize hAe : va_A [(h0, .inr (9, [.null, .null, .null, .int 0, .int 0, .int 0]))] s.heap.size = A at hD ⊢
  have hA : ∀ q : Nat, s.heap.size ≤ q → A q := fun q h => by rw [← hAe]; exact Or.inr h
  have hS : va_S A s.heap s.heap [] := va_S.rf
  have hl := lv_entry ([.ref h0]) (n := 1) (Nat.le_of_ble_eq_true rfl)
  rw [lg_entry_eq]
  generalize (lg_sl ([.ref h0]) ++ List.replicate (1 - (lg_sl ([.ref h0])).length) Slot.unset).toArray = ls at hl ⊢
  have hl : lv_has ls 1 [(0, .ref h0)] := hl
  refine lv_aload_n hx hb (dk_at dkX9_init 0 rfl) rfl (lv_at hl 0 rfl) ?_
  refine W.objInit hx hb hown (hts _ (List.mem_cons_of_mem _ mGA_110)) (hts _ (List.mem_cons_of_mem _ mGA_5)) (hts _ (List.mem_cons_of_mem _ mGA_6)) rfl (by rw [hml]; exact hl.1) rfl (dk_at dkX9_init 1 rfl) (Nat.le_of_ble_eq_true rfl) (Nat.le_of_ble_eq_true rfl) ?_
  refine W.eq (g2 := F0 m 4 ls []) rfl ?_
  refine lv_aload_n hx hb (dk_at dkX9_init 2 rfl) rfl (lv_at hl 0 rfl) ?_
  refine lv_sipush (v := 3575) hx hb (dk_at dkX9_init 3 rfl) (by decide) ?_
  refine va_newa (atype := .int) (ty := .int) (a0 := (3575, .inl (fun _ => 0))) hx hb (hts _ (List.mem_cons_of_mem _ mGA_37)) rfl hK hP hD hS hA (fun _ => rfl) (by decide) (by decide) (Nat.le_of_ble_eq_true rfl) (Nat.le_of_ble_eq_true rfl) (Nat.le_of_ble_eq_true rfl) (dk_at dkX9_init 4 rfl) (fun q_1 k_2 H hK hP hD hS => ?_)
  obtain ⟨hP, hD⟩ := gz_both (w := [(h0, .inr (9, [.null, .null, .null, .int 0, .int 0, .int 0])), (q_1, .inl (k_2, 3575, .inl (fun _ => 0)))]) hP hD
  have hK : va_K (dC, dI) vwCl [(k_2, .int)] s := hK
  refine W.widen (k := 1) (n := 3575) (Nat.le_of_ble_eq_true rfl) (Nat.le_of_ble_eq_true rfl) ?_
  refine va_putF (D := (dC, dI)) (ci := 9) (v := .ref q_1) (ty := .array .int) (C := RX9) (T := TX9) (N := 6) hx hb hts (fun w h => List.mem_cons_of_mem _ (jnGA_X9 w h)) tyX9 tyX9_ok nmX9 hown hK hP hD hS 0 rfl rfl 0 (by decide) (hts _ (List.mem_cons_of_mem _ mGA_111)) (fun _ h9 => h9) rfl hin rfl (by decide +kernel) rfl rfl (Nat.le_of_ble_eq_true rfl) (dk_at dkX9_init 5 rfl) (fun H locs hP hD hS => ?_)
  obtain ⟨hP, hD⟩ := gz_both (w := [(h0, .inr (9, [.ref q_1, .null, .null, .int 0, .int 0, .int 0])), (q_1, .inl (k_2, 3575, .inl (fun _ => 0)))]) hP hD
  refine lv_aload_n hx hb (dk_at dkX9_init 6 rfl) rfl (lv_at hl 0 rfl) ?_
  refine lv_sipush (v := 3575) hx hb (dk_at dkX9_init 7 rfl) (by decide) ?_
  refine va_newa (atype := .int) (ty := .int) (a0 := (3575, .inl (fun _ => 0))) hx hb (hts _ (List.mem_cons_of_mem _ mGA_37)) rfl hK hP hD hS hA (fun _ => rfl) (by decide) (by decide) (Nat.le_of_ble_eq_true rfl) (Nat.le_of_ble_eq_true rfl) (Nat.le_of_ble_eq_true rfl) (dk_at dkX9_init 8 rfl) (fun q_3 k_4 H hK hP hD hS => ?_)
  obtain ⟨hP, hD⟩ := gz_both (w := [(h0, .inr (9, [.ref q_1, .null, .null, .int 0, .int 0, .int 0])), (q_1, .inl (k_2, 3575, .inl (fun _ => 0))), (q_3, .inl (k_4, 3575, .inl (fun _ => 0)))]) hP hD
  have hK : va_K (dC, dI) vwCl [(k_2, .int), (k_4, .int)] s := hK
  refine W.widen (k := 2) (n := 7150) (Nat.le_of_ble_eq_true rfl) (Nat.le_of_ble_eq_true rfl) ?_
  refine va_putF (D := (dC, dI)) (ci := 9) (v := .ref q_3) (ty := .array .int) (C := RX9) (T := TX9) (N := 6) hx hb hts (fun w h => List.mem_cons_of_mem _ (jnGA_X9 w h)) tyX9 tyX9_ok nmX9 hown hK hP hD hS 0 rfl rfl 1 (by decide) (hts _ (List.mem_cons_of_mem _ mGA_112)) (fun _ h9 => h9) rfl hin rfl (by decide +kernel) rfl rfl (Nat.le_of_ble_eq_true rfl) (dk_at dkX9_init 9 rfl) (fun H locs hP hD hS => ?_)
  obtain ⟨hP, hD⟩ := gz_both (w := [(h0, .inr (9, [.ref q_1, .ref q_3, .null, .int 0, .int 0, .int 0])), (q_1, .inl (k_2, 3575, .inl (fun _ => 0))), (q_3, .inl (k_4, 3575, .inl (fun _ => 0)))]) hP hD
  refine lv_aload_n hx hb (dk_at dkX9_init 10 rfl) rfl (lv_at hl 0 rfl) ?_
  refine lv_sipush (v := 325) hx hb (dk_at dkX9_init 11 rfl) (by decide) ?_
  refine va_newa (atype := .int) (ty := .int) (a0 := (325, .inl (fun _ => 0))) hx hb (hts _ (List.mem_cons_of_mem _ mGA_37)) rfl hK hP hD hS hA (fun _ => rfl) (by decide) (by decide) (Nat.le_of_ble_eq_true rfl) (Nat.le_of_ble_eq_true rfl) (Nat.le_of_ble_eq_true rfl) (dk_at dkX9_init 12 rfl) (fun q_5 k_6 H hK hP hD hS => ?_)
  obtain ⟨hP, hD⟩ := gz_both (w := [(h0, .inr (9, [.ref q_1, .ref q_3, .null, .int 0, .int 0, .int 0])), (q_1, .inl (k_2, 3575, .inl (fun _ => 0))), (q_3, .inl (k_4, 3575, .inl (fun _ => 0))), (q_5, .inl (k_6, 325, .inl (fun _ => 0)))]) hP hD
  have hK : va_K (dC, dI) vwCl [(k_2, .int), (k_4, .int), (k_6, .int)] s := hK
  refine W.widen (k := 3) (n := 7475) (Nat.le_of_ble_eq_true rfl) (Nat.le_of_ble_eq_true rfl) ?_
  refine va_putF (D := (dC, dI)) (ci := 9) (v := .ref q_5) (ty := .array .int) (C := RX9) (T := TX9) (N := 6) hx hb hts (fun w h => List.mem_cons_of_mem _ (jnGA_X9 w h)) tyX9 tyX9_ok nmX9 hown hK hP hD hS 0 rfl rfl 2 (by decide) (hts _ (List.mem_cons_of_mem _ mGA_113)) (fun _ h9 => h9) rfl hin rfl (by decide +kernel) rfl rfl (Nat.le_of_ble_eq_true rfl) (dk_at dkX9_init 13 rfl) (fun H locs hP hD hS => ?_)
  obtain ⟨hP, hD⟩ := gz_both (w := [(h0, .inr (9, [.ref q_1, .ref q_3, .ref q_5, .int 0, .int 0, .int 0])), (q_1, .inl (k_2, 3575, .inl (fun _ => 0))), (q_3, .inl (k_4, 3575, .inl (fun _ => 0))), (q_5, .inl (k_6, 325, .inl (fun _ => 0)))]) hP hD
  have hP9 := hP.sub (ws' := [(h0, .inr (9, [.ref q_1, .ref q_3, .ref q_5, .int 0, .int 0, .int 0])), (q_1, .inl (k_2, 3575, .inl (fun _ => 0))), (q_3, .inl (k_4, 3575, .inl (fun _ => 0))), (q_5, .inl (k_6, 325, .inl (fun _ => 0)))]) [0, 1, 2, 3] rfl
  have hD9 := hD.sub (ws' := [(h0, .inr (9, [.ref q_1, .ref q_3, .ref q_5, .int 0, .int 0, .int 0])), (q_1, .inl (k_2, 3575, .inl (fun _ => 0))), (q_3, .inl (k_4, 3575, .inl (fun _ => 0))), (q_5, .inl (k_6, 325, .inl (fun _ => 0)))]) [0, 1, 2, 3] (by decide +kernel) rfl
  have hK9 := hK.sub (tys' := [(k_2, .int), (k_4, .int), (k_6, .int)]) [0, 1, 2] rfl
  exact W.vret hx hb hr (fun t ht hW => ⟨⟨(), rfl, trivial, (fun n => [q_1, q_3, q_5].getD n 0), (fun n => [k_2, k_4, k_6].getD n k_2), by rw [ht]; exact hP9, va_K.moved hW.alike hK9, hD9⟩, hS.F ht⟩) hS.2.2 (dk_at dkX9_init 14 rfl)
noncomputable def lsX8_init : List (Nat × Instr × Nat) := [(0, .aload_n 0, 1), (1, .invokespecial 3, 3), (4, .aload_n 0, 1), (5, .sipush 325, 3), (8, .newarray .int, 2), (10, .putfield 9, 3), (13, .aload_n 0, 1), (14, .sipush 3575, 3), (17, .newarray .int, 2), (19, .putfield 15, 3), (22, .return_, 1)]
theorem dkX8_init : dkAll cX8_init lsX8_init = true := by decide +kernel
set_option maxHeartbeats 4000000 in
set_option maxRecDepth 100000 in
theorem fX8_init (l : Launch) (dC : Nat → ClassId) (dI : Nat → Nat → Nat) (sz : Nat) (h0 : Nat) : Met l yX8_init (.code yX8_init cX8_init 1 none :: wsGA) ({ frames := 1, cells := 2, slots := 3900, locals := 12 }) (va_Pc [.ref h0] (fun U => U.heap.size = sz ∧ va_P (dC, dI) vwCl [(h0, .inr (8, [.null, .null, .int 0, .int 0, .int 0]))] U.heap ∧ va_K (dC, dI) vwCl [] U ∧ va_D (fun _ => True) [(h0, .inr (8, [.null, .null, .int 0, .int 0, .int 0]))])) (va_Qv (fun (u : Unit) => True) (fun _ t => ∃ (q : Nat → Nat) (kk : Nat → ClassId), va_P (dC, dI) vwCl [(h0, .inr (8, [.ref (q 0), .ref (q 1), .int 0, .int 0, .int 0])), ((q 0), .inl ((kk 0), 325, .inl (fun _ => 0))), ((q 1), .inl ((kk 1), 3575, .inl (fun _ => 0)))] t.heap ∧ va_K (dC, dI) vwCl [((kk 0), .int), ((kk 1), .int)] t ∧ va_D (va_A [(h0, .inr (8, [.null, .null, .int 0, .int 0, .int 0]))] sz) [(h0, .inr (8, [.ref (q 0), .ref (q 1), .int 0, .int 0, .int 0])), ((q 0), .inl ((kk 0), 325, .inl (fun _ => 0))), ((q 1), .inl ((kk 1), 3575, .inl (fun _ => 0)))]) (va_A [(h0, .inr (8, [.null, .null, .int 0, .int 0, .int 0]))] sz)) 2 3900 (va_A [(h0, .inr (8, [.null, .null, .int 0, .int 0, .int 0]))] sz) := by
  refine Met.ofW (cc := cX8_init) (maxL := 1) (ret := none) (by decide) rfl ?_
  intro p e s m args below meth c s₁ B hml hv
  obtain ⟨rfl, hsz, hP, hK, hD0⟩ := hv
  have hx := B.exec
  have hb := B.bytes
  have hr := B.returns
  have hts := atoms_spec (ws := (.code yX8_init cX8_init 1 none :: wsGA)) B.pre
  have hown : s.vm.findClass RX8 = some m.cls := findClass_of_methodNamed B.named
  have hlocks := B.notSynchronized
  have hin : meth.name = "<init>" := (name_of_methodNamed B.named B.method).1
  subst hsz
  have hD := hD0.self (sz := s.heap.size)
  generalize hAe : va_A [(h0, .inr (8, [.null, .null, .int 0, .int 0, .int 0]))] s.heap.size = A at hD ⊢
  have hA : ∀ q : Nat, s.heap.size ≤ q → A q := fun q h => by rw [← hAe]; exact Or.inr h
  have hS : va_S A s.heap s.heap [] := va_S.rf
  have hl := lv_entry ([.ref h0]) (n := 1) (Nat.le_of_ble_eq_true rfl)
  rw [lg_entry_eq]
  generalize (lg_sl ([.ref h0]) ++ List.replicate (1 - (lg_sl ([.ref h0])).length) Slot.unset).toArray = ls at hl ⊢
  have hl : lv_has ls 1 [(0, .ref h0)] := hl
  refine lv_aload_n hx hb (dk_at dkX8_init 0 rfl) rfl (lv_at hl 0 rfl) ?_
  refine W.objInit hx hb hown (hts _ (List.mem_cons_of_mem _ mGA_116)) (hts _ (List.mem_cons_of_mem _ mGA_5)) (hts _ (List.mem_cons_of_mem _ mGA_6)) rfl (by rw [hml]; exact hl.1) rfl (dk_at dkX8_init 1 rfl) (Nat.le_of_ble_eq_true rfl) (Nat.le_of_ble_eq_true rfl) ?_
  refine W.eq (g2 := F0 m 4 ls []) rfl ?_
  refine lv_aload_n hx hb (dk_at dkX8_init 2 rfl) rfl (lv_at hl 0 rfl) ?_
  refine lv_sipush (v := 325) hx hb (dk_at dkX8_init 3 rfl) (by decide) ?_
  refine va_newa (atype := .int) (ty := .int) (a0 := (325, .inl (fun _ => 0))) hx hb (hts _ (List.mem_cons_of_mem _ mGA_37)) rfl hK hP hD hS hA (fun _ => rfl) (by decide) (by decide) (Nat.le_of_ble_eq_true rfl) (Nat.le_of_ble_eq_true rfl) (Nat.le_of_ble_eq_true rfl) (dk_at dkX8_init 4 rfl) (fun q_1 k_2 H hK hP hD hS => ?_)
  obtain ⟨hP, hD⟩ := gz_both (w := [(h0, .inr (8, [.null, .null, .int 0, .int 0, .int 0])), (q_1, .inl (k_2, 325, .inl (fun _ => 0)))]) hP hD
  have hK : va_K (dC, dI) vwCl [(k_2, .int)] s := hK
  refine W.widen (k := 1) (n := 325) (Nat.le_of_ble_eq_true rfl) (Nat.le_of_ble_eq_true rfl) ?_
  refine va_putF (D := (dC, dI)) (ci := 8) (v := .ref q_1) (ty := .array .int) (C := RX8) (T := TX8) (N := 5) hx hb hts (fun w h => List.mem_cons_of_mem _ (jnGA_X8 w h)) tyX8 tyX8_ok nmX8 hown hK hP hD hS 0 rfl rfl 0 (by decide) (hts _ (List.mem_cons_of_mem _ mGA_117)) (fun _ h9 => h9) rfl hin rfl (by decide +kernel) rfl rfl (Nat.le_of_ble_eq_true rfl) (dk_at dkX8_init 5 rfl) (fun H locs hP hD hS => ?_)
  obtain ⟨hP, hD⟩ := gz_both (w := [(h0, .inr (8, [.ref q_1, .null, .int 0, .int 0, .int 0])), (q_1, .inl (k_2, 325, .inl (fun _ => 0)))]) hP hD
  refine lv_aload_n hx hb (dk_at dkX8_init 6 rfl) rfl (lv_at hl 0 rfl) ?_
  refine lv_sipush (v := 3575) hx hb (dk_at dkX8_init 7 rfl) (by decide) ?_
  refine va_newa (atype := .int) (ty := .int) (a0 := (3575, .inl (fun _ => 0))) hx hb (hts _ (List.mem_cons_of_mem _ mGA_37)) rfl hK hP hD hS hA (fun _ => rfl) (by decide) (by decide) (Nat.le_of_ble_eq_true rfl) (Nat.le_of_ble_eq_true rfl) (Nat.le_of_ble_eq_true rfl) (dk_at dkX8_init 8 rfl) (fun q_3 k_4 H hK hP hD hS => ?_)
  obtain ⟨hP, hD⟩ := gz_both (w := [(h0, .inr (8, [.ref q_1, .null, .int 0, .int 0, .int 0])), (q_1, .inl (k_2, 325, .inl (fun _ => 0))), (q_3, .inl (k_4, 3575, .inl (fun _ => 0)))]) hP hD
  have hK : va_K (dC, dI) vwCl [(k_2, .int), (k_4, .int)] s := hK
  refine W.widen (k := 2) (n := 3900) (Nat.le_of_ble_eq_true rfl) (Nat.le_of_ble_eq_true rfl) ?_
  refine va_putF (D := (dC, dI)) (ci := 8) (v := .ref q_3) (ty := .array .int) (C := RX8) (T := TX8) (N := 5) hx hb hts (fun w h => List.mem_cons_of_mem _ (jnGA_X8 w h)) tyX8 tyX8_ok nmX8 hown hK hP hD hS 0 rfl rfl 1 (by decide) (hts _ (List.mem_cons_of_mem _ mGA_118)) (fun _ h9 => h9) rfl hin rfl (by decide +kernel) rfl rfl (Nat.le_of_ble_eq_true rfl) (dk_at dkX8_init 9 rfl) (fun H locs hP hD hS => ?_)
  obtain ⟨hP, hD⟩ := gz_both (w := [(h0, .inr (8, [.ref q_1, .ref q_3, .int 0, .int 0, .int 0])), (q_1, .inl (k_2, 325, .inl (fun _ => 0))), (q_3, .inl (k_4, 3575, .inl (fun _ => 0)))]) hP hD
  have hP9 := hP.sub (ws' := [(h0, .inr (8, [.ref q_1, .ref q_3, .int 0, .int 0, .int 0])), (q_1, .inl (k_2, 325, .inl (fun _ => 0))), (q_3, .inl (k_4, 3575, .inl (fun _ => 0)))]) [0, 1, 2] rfl
  have hD9 := hD.sub (ws' := [(h0, .inr (8, [.ref q_1, .ref q_3, .int 0, .int 0, .int 0])), (q_1, .inl (k_2, 325, .inl (fun _ => 0))), (q_3, .inl (k_4, 3575, .inl (fun _ => 0)))]) [0, 1, 2] (by decide +kernel) rfl
  have hK9 := hK.sub (tys' := [(k_2, .int), (k_4, .int)]) [0, 1] rfl
  exact W.vret hx hb hr (fun t ht hW => ⟨⟨(), rfl, trivial, (fun n => [q_1, q_3].getD n 0), (fun n => [k_2, k_4].getD n k_2), by rw [ht]; exact hP9, va_K.moved hW.alike hK9, hD9⟩, hS.F ht⟩) hS.2.2 (dk_at dkX8_init 10 rfl)
noncomputable def lsX4_init : List (Nat × Instr × Nat) := [(0, .aload_n 0, 1), (1, .invokespecial 3, 3), (4, .aload_n 0, 1), (5, .bipush 25, 2), (7, .newarray .int, 2), (9, .putfield 11, 3), (12, .aload_n 0, 1), (13, .sipush 625, 3), (16, .newarray .int, 2), (18, .putfield 15, 3), (21, .aload_n 0, 1), (22, .iconst 0, 1), (23, .putfield 18, 3), (26, .return_, 1)]
theorem dkX4_init : dkAll cX4_init lsX4_init = true := by decide +kernel
set_option maxHeartbeats 4000000 in
set_option maxRecDepth 100000 in
theorem fX4_init (l : Launch) (dC : Nat → ClassId) (dI : Nat → Nat → Nat) (sz : Nat) (h0 : Nat) : Met l yX4_init (.code yX4_init cX4_init 1 none :: wsGA) ({ frames := 1, cells := 2, slots := 650, locals := 12 }) (va_Pc [.ref h0] (fun U => U.heap.size = sz ∧ va_P (dC, dI) vwCl [(h0, .inr (4, [.null, .null, .int 0]))] U.heap ∧ va_K (dC, dI) vwCl [] U ∧ va_D (fun _ => True) [(h0, .inr (4, [.null, .null, .int 0]))])) (va_Qv (fun (u : Unit) => True) (fun _ t => ∃ (q : Nat → Nat) (kk : Nat → ClassId), va_P (dC, dI) vwCl [(h0, .inr (4, [.ref (q 0), .ref (q 1), .int 0])), ((q 0), .inl ((kk 0), 25, .inl (fun _ => 0))), ((q 1), .inl ((kk 1), 625, .inl (fun _ => 0)))] t.heap ∧ va_K (dC, dI) vwCl [((kk 0), .int), ((kk 1), .int)] t ∧ va_D (va_A [(h0, .inr (4, [.null, .null, .int 0]))] sz) [(h0, .inr (4, [.ref (q 0), .ref (q 1), .int 0])), ((q 0), .inl ((kk 0), 25, .inl (fun _ => 0))), ((q 1), .inl ((kk 1), 625, .inl (fun _ => 0)))]) (va_A [(h0, .inr (4, [.null, .null, .int 0]))] sz)) 2 650 (va_A [(h0, .inr (4, [.null, .null, .int 0]))] sz) := by
  refine Met.ofW (cc := cX4_init) (maxL := 1) (ret := none) (by decide) rfl ?_
  intro p e s m args below meth c s₁ B hml hv
  obtain ⟨rfl, hsz, hP, hK, hD0⟩ := hv
  have hx := B.exec
  have hb := B.bytes
  have hr := B.returns
  have hts := atoms_spec (ws := (.code yX4_init cX4_init 1 none :: wsGA)) B.pre
  have hown : s.vm.findClass RX4 = some m.cls := findClass_of_methodNamed B.named
  have hlocks := B.notSynchronized
  have hin : meth.name = "<init>" := (name_of_methodNamed B.named B.method).1
  subst hsz
  have hD := hD0.self (sz := s.heap.size)
  generalize hAe : va_A [(h0, .inr (4, [.null, .null, .int 0]))] s.heap.size = A at hD ⊢
  have hA : ∀ q : Nat, s.heap.size ≤ q → A q := fun q h => by rw [← hAe]; exact Or.inr h
  have hS : va_S A s.heap s.heap [] := va_S.rf
  have hl := lv_entry ([.ref h0]) (n := 1) (Nat.le_of_ble_eq_true rfl)
  rw [lg_entry_eq]
  generalize (lg_sl ([.ref h0]) ++ List.replicate (1 - (lg_sl ([.ref h0])).length) Slot.unset).toArray = ls at hl ⊢
  have hl : lv_has ls 1 [(0, .ref h0)] := hl
  refine lv_aload_n hx hb (dk_at dkX4_init 0 rfl) rfl (lv_at hl 0 rfl) ?_
  refine W.objInit hx hb hown (hts _ (List.mem_cons_of_mem _ mGA_121)) (hts _ (List.mem_cons_of_mem _ mGA_5)) (hts _ (List.mem_cons_of_mem _ mGA_6)) rfl (by rw [hml]; exact hl.1) rfl (dk_at dkX4_init 1 rfl) (Nat.le_of_ble_eq_true rfl) (Nat.le_of_ble_eq_true rfl) ?_
  refine W.eq (g2 := F0 m 4 ls []) rfl ?_
  refine lv_aload_n hx hb (dk_at dkX4_init 2 rfl) rfl (lv_at hl 0 rfl) ?_
  refine lv_bipush (v := 25) hx hb (dk_at dkX4_init 3 rfl) (by decide) ?_
  refine va_newa (atype := .int) (ty := .int) (a0 := (25, .inl (fun _ => 0))) hx hb (hts _ (List.mem_cons_of_mem _ mGA_37)) rfl hK hP hD hS hA (fun _ => rfl) (by decide) (by decide) (Nat.le_of_ble_eq_true rfl) (Nat.le_of_ble_eq_true rfl) (Nat.le_of_ble_eq_true rfl) (dk_at dkX4_init 4 rfl) (fun q_1 k_2 H hK hP hD hS => ?_)
  obtain ⟨hP, hD⟩ := gz_both (w := [(h0, .inr (4, [.null, .null, .int 0])), (q_1, .inl (k_2, 25, .inl (fun _ => 0)))]) hP hD
  have hK : va_K (dC, dI) vwCl [(k_2, .int)] s := hK
  refine W.widen (k := 1) (n := 25) (Nat.le_of_ble_eq_true rfl) (Nat.le_of_ble_eq_true rfl) ?_
  refine va_putF (D := (dC, dI)) (ci := 4) (v := .ref q_1) (ty := .array .int) (C := RX4) (T := TX4) (N := 3) hx hb hts (fun w h => List.mem_cons_of_mem _ (jnGA_X4 w h)) tyX4 tyX4_ok nmX4 hown hK hP hD hS 0 rfl rfl 0 (by decide) (hts _ (List.mem_cons_of_mem _ mGA_122)) (fun _ h9 => h9) rfl hin rfl (by decide +kernel) rfl rfl (Nat.le_of_ble_eq_true rfl) (dk_at dkX4_init 5 rfl) (fun H locs hP hD hS => ?_)
  obtain ⟨hP, hD⟩ := gz_both (w := [(h0, .inr (4, [.ref q_1, .null, .int 0])), (q_1, .inl (k_2, 25, .inl (fun _ => 0)))]) hP hD
  refine lv_aload_n hx hb (dk_at dkX4_init 6 rfl) rfl (lv_at hl 0 rfl) ?_
  refine lv_sipush (v := 625) hx hb (dk_at dkX4_init 7 rfl) (by decide) ?_
  refine va_newa (atype := .int) (ty := .int) (a0 := (625, .inl (fun _ => 0))) hx hb (hts _ (List.mem_cons_of_mem _ mGA_37)) rfl hK hP hD hS hA (fun _ => rfl) (by decide) (by decide) (Nat.le_of_ble_eq_true rfl) (Nat.le_of_ble_eq_true rfl) (Nat.le_of_ble_eq_true rfl) (dk_at dkX4_init 8 rfl) (fun q_3 k_4 H hK hP hD hS => ?_)
  obtain ⟨hP, hD⟩ := gz_both (w := [(h0, .inr (4, [.ref q_1, .null, .int 0])), (q_1, .inl (k_2, 25, .inl (fun _ => 0))), (q_3, .inl (k_4, 625, .inl (fun _ => 0)))]) hP hD
  have hK : va_K (dC, dI) vwCl [(k_2, .int), (k_4, .int)] s := hK
  refine W.widen (k := 2) (n := 650) (Nat.le_of_ble_eq_true rfl) (Nat.le_of_ble_eq_true rfl) ?_
  refine va_putF (D := (dC, dI)) (ci := 4) (v := .ref q_3) (ty := .array .int) (C := RX4) (T := TX4) (N := 3) hx hb hts (fun w h => List.mem_cons_of_mem _ (jnGA_X4 w h)) tyX4 tyX4_ok nmX4 hown hK hP hD hS 0 rfl rfl 1 (by decide) (hts _ (List.mem_cons_of_mem _ mGA_123)) (fun _ h9 => h9) rfl hin rfl (by decide +kernel) rfl rfl (Nat.le_of_ble_eq_true rfl) (dk_at dkX4_init 9 rfl) (fun H locs hP hD hS => ?_)
  obtain ⟨hP, hD⟩ := gz_both (w := [(h0, .inr (4, [.ref q_1, .ref q_3, .int 0])), (q_1, .inl (k_2, 25, .inl (fun _ => 0))), (q_3, .inl (k_4, 625, .inl (fun _ => 0)))]) hP hD
  refine lv_aload_n hx hb (dk_at dkX4_init 10 rfl) rfl (lv_at hl 0 rfl) ?_
  refine lv_iconst (v := 0) hx hb (dk_at dkX4_init 11 rfl) (by decide) ?_
  refine va_put (D := (dC, dI)) (ci := 4) (v := .int 0) (ty := .int) (C := RX4) (T := TX4) (N := 3) hx hb hts (fun w h => List.mem_cons_of_mem _ (jnGA_X4 w h)) tyX4 tyX4_ok nmX4 hown hK hP hD hS 0 rfl rfl 2 (by decide) (hts _ (List.mem_cons_of_mem _ mGA_124)) (fun _ h9 => h9) rfl (by decide +kernel) rfl rfl (Nat.le_of_ble_eq_true rfl) (dk_at dkX4_init 12 rfl) (fun H locs hP hD hS => ?_)
  obtain ⟨hP, hD⟩ := gz_both (w := [(h0, .inr (4, [.ref q_1, .ref q_3, .int 0])), (q_1, .inl (k_2, 25, .inl (fun _ => 0))), (q_3, .inl (k_4, 625, .inl (fun _ => 0)))]) hP hD
  have hP9 := hP.sub (ws' := [(h0, .inr (4, [.ref q_1, .ref q_3, .int 0])), (q_1, .inl (k_2, 25, .inl (fun _ => 0))), (q_3, .inl (k_4, 625, .inl (fun _ => 0)))]) [0, 1, 2] rfl
  have hD9 := hD.sub (ws' := [(h0, .inr (4, [.ref q_1, .ref q_3, .int 0])), (q_1, .inl (k_2, 25, .inl (fun _ => 0))), (q_3, .inl (k_4, 625, .inl (fun _ => 0)))]) [0, 1, 2] (by decide +kernel) rfl
  have hK9 := hK.sub (tys' := [(k_2, .int), (k_4, .int)]) [0, 1] rfl
  exact W.vret hx hb hr (fun t ht hW => ⟨⟨(), rfl, trivial, (fun n => [q_1, q_3].getD n 0), (fun n => [k_2, k_4].getD n k_2), by rw [ht]; exact hP9, va_K.moved hW.alike hK9, hD9⟩, hS.F ht⟩) hS.2.2 (dk_at dkX4_init 13 rfl)
noncomputable def lsX10_init : List (Nat × Instr × Nat) := [(0, .aload_n 0, 1), (1, .invokespecial 3, 3), (4, .aload_n 0, 1), (5, .sipush 1600, 3), (8, .newarray .byte, 2), (10, .putfield 9, 3), (13, .aload_n 0, 1), (14, .iconst 0, 1), (15, .putfield 15, 3), (18, .return_, 1)]
theorem dkX10_init : dkAll cX10_init lsX10_init = true := by decide +kernel
set_option maxHeartbeats 4000000 in
set_option maxRecDepth 100000 in
theorem fX10_init (l : Launch) (dC : Nat → ClassId) (dI : Nat → Nat → Nat) (sz : Nat) (h0 : Nat) : Met l yX10_init (.code yX10_init cX10_init 1 none :: wsGA) ({ frames := 1, cells := 1, slots := 1600, locals := 12 }) (va_Pc [.ref h0] (fun U => U.heap.size = sz ∧ va_P (dC, dI) vwCl [(h0, .inr (10, [.null, .int 0]))] U.heap ∧ va_K (dC, dI) vwCl [] U ∧ va_D (fun _ => True) [(h0, .inr (10, [.null, .int 0]))])) (va_Qv (fun (u : Unit) => True) (fun _ t => ∃ (q : Nat → Nat) (kk : Nat → ClassId), va_P (dC, dI) vwCl [(h0, .inr (10, [.ref (q 0), .int 0])), ((q 0), .inl ((kk 0), 1600, .inl (fun _ => 0)))] t.heap ∧ va_K (dC, dI) vwCl [((kk 0), .byte)] t ∧ va_D (va_A [(h0, .inr (10, [.null, .int 0]))] sz) [(h0, .inr (10, [.ref (q 0), .int 0])), ((q 0), .inl ((kk 0), 1600, .inl (fun _ => 0)))]) (va_A [(h0, .inr (10, [.null, .int 0]))] sz)) 1 1600 (va_A [(h0, .inr (10, [.null, .int 0]))] sz) := by
  refine Met.ofW (cc := cX10_init) (maxL := 1) (ret := none) (by decide) rfl ?_
  intro p e s m args below meth c s₁ B hml hv
  obtain ⟨rfl, hsz, hP, hK, hD0⟩ := hv
  have hx := B.exec
  have hb := B.bytes
  have hr := B.returns
  have hts := atoms_spec (ws := (.code yX10_init cX10_init 1 none :: wsGA)) B.pre
  have hown : s.vm.findClass RX10 = some m.cls := findClass_of_methodNamed B.named
  have hlocks := B.notSynchronized
  have hin : meth.name = "<init>" := (name_of_methodNamed B.named B.method).1
  subst hsz
  have hD := hD0.self (sz := s.heap.size)
  generalize hAe : va_A [(h0, .inr (10, [.null, .int 0]))] s.heap.size = A at hD ⊢
  have hA : ∀ q : Nat, s.heap.size ≤ q → A q := fun q h => by rw [← hAe]; exact Or.inr h
  have hS : va_S A s.heap s.heap [] := va_S.rf
  have hl := lv_entry ([.ref h0]) (n := 1) (Nat.le_of_ble_eq_true rfl)
  rw [lg_entry_eq]
  generalize (lg_sl ([.ref h0]) ++ List.replicate (1 - (lg_sl ([.ref h0])).length) Slot.unset).toArray = ls at hl ⊢
  have hl : lv_has ls 1 [(0, .ref h0)] := hl
  refine lv_aload_n hx hb (dk_at dkX10_init 0 rfl) rfl (lv_at hl 0 rfl) ?_
  refine W.objInit hx hb hown (hts _ (List.mem_cons_of_mem _ mGA_62)) (hts _ (List.mem_cons_of_mem _ mGA_5)) (hts _ (List.mem_cons_of_mem _ mGA_6)) rfl (by rw [hml]; exact hl.1) rfl (dk_at dkX10_init 1 rfl) (Nat.le_of_ble_eq_true rfl) (Nat.le_of_ble_eq_true rfl) ?_
  refine W.eq (g2 := F0 m 4 ls []) rfl ?_
  refine lv_aload_n hx hb (dk_at dkX10_init 2 rfl) rfl (lv_at hl 0 rfl) ?_
  refine lv_sipush (v := 1600) hx hb (dk_at dkX10_init 3 rfl) (by decide) ?_
  refine va_newa (atype := .byte) (ty := .byte) (a0 := (1600, .inl (fun _ => 0))) hx hb (hts _ (List.mem_cons_of_mem _ mGA_39)) rfl hK hP hD hS hA (fun _ => rfl) (by decide) (by decide) (Nat.le_of_ble_eq_true rfl) (Nat.le_of_ble_eq_true rfl) (Nat.le_of_ble_eq_true rfl) (dk_at dkX10_init 4 rfl) (fun q_1 k_2 H hK hP hD hS => ?_)
  obtain ⟨hP, hD⟩ := gz_both (w := [(h0, .inr (10, [.null, .int 0])), (q_1, .inl (k_2, 1600, .inl (fun _ => 0)))]) hP hD
  have hK : va_K (dC, dI) vwCl [(k_2, .byte)] s := hK
  refine W.widen (k := 1) (n := 1600) (Nat.le_of_ble_eq_true rfl) (Nat.le_of_ble_eq_true rfl) ?_
  refine va_putF (D := (dC, dI)) (ci := 10) (v := .ref q_1) (ty := .array .byte) (C := RX10) (T := TX10) (N := 2) hx hb hts (fun w h => List.mem_cons_of_mem _ (jnGA_X10 w h)) tyX10 tyX10_ok nmX10 hown hK hP hD hS 0 rfl rfl 0 (by decide) (hts _ (List.mem_cons_of_mem _ mGA_63)) (fun _ h9 => h9) rfl hin rfl (by decide +kernel) rfl rfl (Nat.le_of_ble_eq_true rfl) (dk_at dkX10_init 5 rfl) (fun H locs hP hD hS => ?_)
  obtain ⟨hP, hD⟩ := gz_both (w := [(h0, .inr (10, [.ref q_1, .int 0])), (q_1, .inl (k_2, 1600, .inl (fun _ => 0)))]) hP hD
  refine lv_aload_n hx hb (dk_at dkX10_init 6 rfl) rfl (lv_at hl 0 rfl) ?_
  refine lv_iconst (v := 0) hx hb (dk_at dkX10_init 7 rfl) (by decide) ?_
  refine va_put (D := (dC, dI)) (ci := 10) (v := .int 0) (ty := .int) (C := RX10) (T := TX10) (N := 2) hx hb hts (fun w h => List.mem_cons_of_mem _ (jnGA_X10 w h)) tyX10 tyX10_ok nmX10 hown hK hP hD hS 0 rfl rfl 1 (by decide) (hts _ (List.mem_cons_of_mem _ mGA_64)) (fun _ h9 => h9) rfl (by decide +kernel) rfl rfl (Nat.le_of_ble_eq_true rfl) (dk_at dkX10_init 8 rfl) (fun H locs hP hD hS => ?_)
  obtain ⟨hP, hD⟩ := gz_both (w := [(h0, .inr (10, [.ref q_1, .int 0])), (q_1, .inl (k_2, 1600, .inl (fun _ => 0)))]) hP hD
  have hP9 := hP.sub (ws' := [(h0, .inr (10, [.ref q_1, .int 0])), (q_1, .inl (k_2, 1600, .inl (fun _ => 0)))]) [0, 1] rfl
  have hD9 := hD.sub (ws' := [(h0, .inr (10, [.ref q_1, .int 0])), (q_1, .inl (k_2, 1600, .inl (fun _ => 0)))]) [0, 1] (by decide +kernel) rfl
  have hK9 := hK.sub (tys' := [(k_2, .byte)]) [0] rfl
  exact W.vret hx hb hr (fun t ht hW => ⟨⟨(), rfl, trivial, (fun n => [q_1].getD n 0), (fun n => [k_2].getD n k_2), by rw [ht]; exact hP9, va_K.moved hW.alike hK9, hD9⟩, hS.F ht⟩) hS.2.2 (dk_at dkX10_init 9 rfl)
noncomputable def lsX1_init : List (Nat × Instr × Nat) := [(0, .aload_n 0, 1), (1, .invokespecial 3, 3), (4, .aload_n 0, 1), (5, .new 9, 3), (8, .dup, 1), (9, .invokespecial 11, 3), (12, .putfield 12, 3), (15, .aload_n 0, 1), (16, .bipush 24, 2), (18, .newarray .int, 2), (20, .putfield 18, 3), (23, .aload_n 0, 1), (24, .bipush 24, 2), (26, .newarray .int, 2), (28, .putfield 22, 3), (31, .aload_n 0, 1), (32, .bipush 24, 2), (34, .newarray .long, 2), (36, .putfield 25, 3), (39, .aload_n 0, 1), (40, .bipush 25, 2), (42, .newarray .int, 2), (44, .putfield 29, 3), (47, .aload_n 0, 1), (48, .iconst 0, 1), (49, .putfield 32, 3), (52, .aload_n 0, 1), (53, .iconst 0, 1), (54, .putfield 36, 3), (57, .return_, 1)]
theorem dkX1_init : dkAll cX1_init lsX1_init = true := by decide +kernel
set_option maxHeartbeats 4000000 in
set_option maxRecDepth 100000 in
theorem fX1_init (l : Launch) (dC : Nat → ClassId) (dI : Nat → Nat → Nat) (sz : Nat) (h0 : Nat) : Met l yX1_init (.code yX1_init cX1_init 1 none :: wsGA) ({ frames := 2, cells := 7, slots := 402, locals := 32 }) (va_Pc [.ref h0] (fun U => U.heap.size = sz ∧ va_P (dC, dI) vwCl [(h0, .inr (1, [.null, .null, .null, .null, .null, .int 0, .int 0]))] U.heap ∧ va_K (dC, dI) vwCl [] U ∧ va_D (fun _ => True) [(h0, .inr (1, [.null, .null, .null, .null, .null, .int 0, .int 0]))] ∧ nzA U)) (va_Qv (fun (u : Unit) => True) (fun _ t => ∃ (q : Nat → Nat) (kk : Nat → ClassId), va_P (dC, dI) vwCl [(h0, .inr (1, [.ref (q 0), .ref (q 3), .ref (q 4), .ref (q 5), .ref (q 6), .int 0, .int 0])), ((q 3), .inl ((kk 2), 24, .inl (fun _ => 0))), ((q 4), .inl ((kk 3), 24, .inl (fun _ => 0))), ((q 5), .inl ((kk 4), 24, .inr (.inl (fun _ => 0)))), ((q 6), .inl ((kk 5), 25, .inl (fun _ => 0))), ((q 0), .inr (3, [.int 0, .int 0, .int 0, .ref (q 1), .ref (q 2)])), ((q 1), .inl ((kk 0), 25, .inl (fun _ => 0))), ((q 2), .inl ((kk 1), 275, .inl (fun _ => 0)))] t.heap ∧ va_K (dC, dI) vwCl [((kk 2), .int), ((kk 3), .int), ((kk 4), .long), ((kk 5), .int), ((kk 0), .int), ((kk 1), .int)] t ∧ va_D (va_A [(h0, .inr (1, [.null, .null, .null, .null, .null, .int 0, .int 0]))] sz) [(h0, .inr (1, [.ref (q 0), .ref (q 3), .ref (q 4), .ref (q 5), .ref (q 6), .int 0, .int 0])), ((q 3), .inl ((kk 2), 24, .inl (fun _ => 0))), ((q 4), .inl ((kk 3), 24, .inl (fun _ => 0))), ((q 5), .inl ((kk 4), 24, .inr (.inl (fun _ => 0)))), ((q 6), .inl ((kk 5), 25, .inl (fun _ => 0))), ((q 0), .inr (3, [.int 0, .int 0, .int 0, .ref (q 1), .ref (q 2)])), ((q 1), .inl ((kk 0), 25, .inl (fun _ => 0))), ((q 2), .inl ((kk 1), 275, .inl (fun _ => 0)))]) (va_A [(h0, .inr (1, [.null, .null, .null, .null, .null, .int 0, .int 0]))] sz)) 7 402 (va_A [(h0, .inr (1, [.null, .null, .null, .null, .null, .int 0, .int 0]))] sz) := by
  refine Met.ofW (cc := cX1_init) (maxL := 1) (ret := none) (by decide) rfl ?_
  intro p e s m args below meth c s₁ B hml hv
  obtain ⟨rfl, hsz, hP, hK, hD0, hz⟩ := hv
  have hx := B.exec
  have hb := B.bytes
  have hr := B.returns
  have hts := atoms_spec (ws := (.code yX1_init cX1_init 1 none :: wsGA)) B.pre
  have hown : s.vm.findClass RX1 = some m.cls := findClass_of_methodNamed B.named
  have hlocks := B.notSynchronized
  have hin : meth.name = "<init>" := (name_of_methodNamed B.named B.method).1
  subst hsz
  have hD := hD0.self (sz := s.heap.size)
  generalize hAe : va_A [(h0, .inr (1, [.null, .null, .null, .null, .null, .int 0, .int 0]))] s.heap.size = A at hD ⊢
  have hA : ∀ q : Nat, s.heap.size ≤ q → A q := fun q h => by rw [← hAe]; exact Or.inr h
  have hS : va_S A s.heap s.heap [] := va_S.rf
  have hl := lv_entry ([.ref h0]) (n := 1) (Nat.le_of_ble_eq_true rfl)
  rw [lg_entry_eq]
  generalize (lg_sl ([.ref h0]) ++ List.replicate (1 - (lg_sl ([.ref h0])).length) Slot.unset).toArray = ls at hl ⊢
  have hl : lv_has ls 1 [(0, .ref h0)] := hl
  refine lv_aload_n hx hb (dk_at dkX1_init 0 rfl) rfl (lv_at hl 0 rfl) ?_
  refine W.objInit hx hb hown (hts _ (List.mem_cons_of_mem _ mGA_98)) (hts _ (List.mem_cons_of_mem _ mGA_5)) (hts _ (List.mem_cons_of_mem _ mGA_6)) rfl (by rw [hml]; exact hl.1) rfl (dk_at dkX1_init 1 rfl) (Nat.le_of_ble_eq_true rfl) (Nat.le_of_ble_eq_true rfl) ?_
  refine W.eq (g2 := F0 m 4 ls []) rfl ?_
  refine lv_aload_n hx hb (dk_at dkX1_init 2 rfl) rfl (lv_at hl 0 rfl) ?_
  refine va_new (ci := 3) (fs := [.int 0, .int 0, .int 0, .null, .null]) (C := RX3) (T := TX3) (N := 5) hx hb hts (fun w h => List.mem_cons_of_mem _ (jnGA_X3 w h)) tyX3 tyX3_ok hown (hts _ (List.mem_cons_of_mem _ mGA_99)) (hts _ (List.mem_cons_of_mem _ mGA_17)) (hts _ (List.mem_cons_of_mem _ mGA_18)) hK hP hD hS hA rfl dfX3 (Nat.le_of_ble_eq_true rfl) (Nat.le_of_ble_eq_true rfl) (dk_at dkX1_init 3 rfl) (fun q_1 H hP hD hS => ?_)
  obtain ⟨hP, hD⟩ := gz_both (w := [(h0, .inr (1, [.null, .null, .null, .null, .null, .int 0, .int 0])), (q_1, .inr (3, [.int 0, .int 0, .int 0, .null, .null]))]) hP hD
  refine W.widen (k := 1) (n := 5) (Nat.le_of_ble_eq_true rfl) (Nat.le_of_ble_eq_true rfl) ?_
  refine lv_dup hx hb (dk_at dkX1_init 4 rfl) rfl ?_
  have hPc := hP.sub (ws' := [(q_1, .inr (3, [.int 0, .int 0, .int 0, .null, .null]))]) [1] rfl
  have hDc := hD.sub (ws' := [(q_1, .inr (3, [.int 0, .int 0, .int 0, .null, .null]))]) [1] (by decide) rfl
  have hKc := hK.sub (tys' := []) [] rfl
  have hFc := va_free (wc := [(q_1, .inr (3, [.int 0, .int 0, .int 0, .null, .null]))]) hD hS hA [1] rfl
  refine va_callv (va_runIN (As := []) (rest := [.ref q_1, .ref h0]) ⟨hx, hb, hml, hown, hts⟩ (fX3_init l dC dI H.size q_1) (⟨va_cnB 0 hts (gz_gP mGA_92 goodGA) rfl rfl rfl (nzA_X1_11 hz) (hts _ (List.mem_cons_of_mem _ mGA_18)) (by decide +kernel) ⟨Nat.le_of_ble_eq_true rfl, Nat.le_of_ble_eq_true rfl⟩, rfl, (hts _ (List.mem_cons_of_mem _ mGA_91))⟩) ⟨bl_W, fun U hU hW => ⟨rfl, by rw [hU], by rw [hU]; exact hPc, va_K.moved hW.alike hKc, hDc.weaken (fun _ _ _ _ => trivial)⟩⟩ rfl rfl hl.1 rfl (lv_room (Nat.le_of_ble_eq_true rfl)) (dk_at dkX1_init 5 rfl) ⟨Nat.le_of_ble_eq_true rfl, Nat.le_of_ble_eq_true rfl⟩) hS (fun q _ h => hFc q h) hFc (fun  u t H1 locs ht hvm hw hB hz1 hk1 hS => ?_)
  obtain ⟨q_2, kk_3, hP1, hK1, hD1⟩ := hB
  rw [ht] at hP1
  have hK1 := va_K.moved hvm.symm hK1
  obtain ⟨hP, hD⟩ := va_join (wr := [(h0, .inr (1, [.null, .null, .null, .null, .null, .int 0, .int 0]))]) (w1 := [(q_1, .inr (3, [.int 0, .int 0, .int 0, .ref (q_2 0), .ref (q_2 1)])), ((q_2 0), .inl ((kk_3 0), 25, .inl (fun _ => 0))), ((q_2 1), .inl ((kk_3 1), 275, .inl (fun _ => 0)))]) hP hD [1] [0] rfl rfl (by decide) (by decide) hk1 hFc hP1 hD1
  have hK := hK.app hK1
  have hK : va_K (dC, dI) vwCl [((kk_3 0), .int), ((kk_3 1), .int)] s := hK
  generalize H1 = H at hP hS ⊢
  obtain ⟨hP, hD⟩ := gz_both (w := [(h0, .inr (1, [.null, .null, .null, .null, .null, .int 0, .int 0])), (q_1, .inr (3, [.int 0, .int 0, .int 0, .ref (q_2 0), .ref (q_2 1)])), ((q_2 0), .inl ((kk_3 0), 25, .inl (fun _ => 0))), ((q_2 1), .inl ((kk_3 1), 275, .inl (fun _ => 0)))]) hP hD
  refine W.widen (k := 3) (n := 305) (Nat.le_of_ble_eq_true rfl) (Nat.le_of_ble_eq_true rfl) ?_
  refine va_putF (D := (dC, dI)) (ci := 1) (v := .ref q_1) (ty := .object "SightedMonths$Frame") (C := RX1) (T := TX1) (N := 7) hx hb hts (fun w h => List.mem_cons_of_mem _ (jnGA_X1 w h)) tyX1 tyX1_ok nmX1 hown hK hP hD hS 0 rfl rfl 0 (by decide) (hts _ (List.mem_cons_of_mem _ mGA_100)) (fun _ h9 => h9) rfl hin rfl (by decide +kernel) rfl rfl (Nat.le_of_ble_eq_true rfl) (dk_at dkX1_init 6 rfl) (fun H locs hP hD hS => ?_)
  obtain ⟨hP, hD⟩ := gz_both (w := [(h0, .inr (1, [.ref q_1, .null, .null, .null, .null, .int 0, .int 0])), (q_1, .inr (3, [.int 0, .int 0, .int 0, .ref (q_2 0), .ref (q_2 1)])), ((q_2 0), .inl ((kk_3 0), 25, .inl (fun _ => 0))), ((q_2 1), .inl ((kk_3 1), 275, .inl (fun _ => 0)))]) hP hD
  refine lv_aload_n hx hb (dk_at dkX1_init 7 rfl) rfl (lv_at hl 0 rfl) ?_
  refine lv_bipush (v := 24) hx hb (dk_at dkX1_init 8 rfl) (by decide) ?_
  refine va_newa (atype := .int) (ty := .int) (a0 := (24, .inl (fun _ => 0))) hx hb (hts _ (List.mem_cons_of_mem _ mGA_37)) rfl hK hP hD hS hA (fun _ => rfl) (by decide) (by decide) (Nat.le_of_ble_eq_true rfl) (Nat.le_of_ble_eq_true rfl) (Nat.le_of_ble_eq_true rfl) (dk_at dkX1_init 9 rfl) (fun q_5 k_6 H hK hP hD hS => ?_)
  obtain ⟨hP, hD⟩ := gz_both (w := [(h0, .inr (1, [.ref q_1, .null, .null, .null, .null, .int 0, .int 0])), (q_1, .inr (3, [.int 0, .int 0, .int 0, .ref (q_2 0), .ref (q_2 1)])), ((q_2 0), .inl ((kk_3 0), 25, .inl (fun _ => 0))), ((q_2 1), .inl ((kk_3 1), 275, .inl (fun _ => 0))), (q_5, .inl (k_6, 24, .inl (fun _ => 0)))]) hP hD
  have hK : va_K (dC, dI) vwCl [((kk_3 0), .int), ((kk_3 1), .int), (k_6, .int)] s := hK
  refine W.widen (k := 4) (n := 329) (Nat.le_of_ble_eq_true rfl) (Nat.le_of_ble_eq_true rfl) ?_
  refine va_putF (D := (dC, dI)) (ci := 1) (v := .ref q_5) (ty := .array .int) (C := RX1) (T := TX1) (N := 7) hx hb hts (fun w h => List.mem_cons_of_mem _ (jnGA_X1 w h)) tyX1 tyX1_ok nmX1 hown hK hP hD hS 0 rfl rfl 1 (by decide) (hts _ (List.mem_cons_of_mem _ mGA_101)) (fun _ h9 => h9) rfl hin rfl (by decide +kernel) rfl rfl (Nat.le_of_ble_eq_true rfl) (dk_at dkX1_init 10 rfl) (fun H locs hP hD hS => ?_)
  obtain ⟨hP, hD⟩ := gz_both (w := [(h0, .inr (1, [.ref q_1, .ref q_5, .null, .null, .null, .int 0, .int 0])), (q_1, .inr (3, [.int 0, .int 0, .int 0, .ref (q_2 0), .ref (q_2 1)])), ((q_2 0), .inl ((kk_3 0), 25, .inl (fun _ => 0))), ((q_2 1), .inl ((kk_3 1), 275, .inl (fun _ => 0))), (q_5, .inl (k_6, 24, .inl (fun _ => 0)))]) hP hD
  refine lv_aload_n hx hb (dk_at dkX1_init 11 rfl) rfl (lv_at hl 0 rfl) ?_
  refine lv_bipush (v := 24) hx hb (dk_at dkX1_init 12 rfl) (by decide) ?_
  refine va_newa (atype := .int) (ty := .int) (a0 := (24, .inl (fun _ => 0))) hx hb (hts _ (List.mem_cons_of_mem _ mGA_37)) rfl hK hP hD hS hA (fun _ => rfl) (by decide) (by decide) (Nat.le_of_ble_eq_true rfl) (Nat.le_of_ble_eq_true rfl) (Nat.le_of_ble_eq_true rfl) (dk_at dkX1_init 13 rfl) (fun q_7 k_8 H hK hP hD hS => ?_)
  obtain ⟨hP, hD⟩ := gz_both (w := [(h0, .inr (1, [.ref q_1, .ref q_5, .null, .null, .null, .int 0, .int 0])), (q_1, .inr (3, [.int 0, .int 0, .int 0, .ref (q_2 0), .ref (q_2 1)])), ((q_2 0), .inl ((kk_3 0), 25, .inl (fun _ => 0))), ((q_2 1), .inl ((kk_3 1), 275, .inl (fun _ => 0))), (q_5, .inl (k_6, 24, .inl (fun _ => 0))), (q_7, .inl (k_8, 24, .inl (fun _ => 0)))]) hP hD
  have hK : va_K (dC, dI) vwCl [((kk_3 0), .int), ((kk_3 1), .int), (k_6, .int), (k_8, .int)] s := hK
  refine W.widen (k := 5) (n := 353) (Nat.le_of_ble_eq_true rfl) (Nat.le_of_ble_eq_true rfl) ?_
  refine va_putF (D := (dC, dI)) (ci := 1) (v := .ref q_7) (ty := .array .int) (C := RX1) (T := TX1) (N := 7) hx hb hts (fun w h => List.mem_cons_of_mem _ (jnGA_X1 w h)) tyX1 tyX1_ok nmX1 hown hK hP hD hS 0 rfl rfl 2 (by decide) (hts _ (List.mem_cons_of_mem _ mGA_102)) (fun _ h9 => h9) rfl hin rfl (by decide +kernel) rfl rfl (Nat.le_of_ble_eq_true rfl) (dk_at dkX1_init 14 rfl) (fun H locs hP hD hS => ?_)
  obtain ⟨hP, hD⟩ := gz_both (w := [(h0, .inr (1, [.ref q_1, .ref q_5, .ref q_7, .null, .null, .int 0, .int 0])), (q_1, .inr (3, [.int 0, .int 0, .int 0, .ref (q_2 0), .ref (q_2 1)])), ((q_2 0), .inl ((kk_3 0), 25, .inl (fun _ => 0))), ((q_2 1), .inl ((kk_3 1), 275, .inl (fun _ => 0))), (q_5, .inl (k_6, 24, .inl (fun _ => 0))), (q_7, .inl (k_8, 24, .inl (fun _ => 0)))]) hP hD
  refine lv_aload_n hx hb (dk_at dkX1_init 15 rfl) rfl (lv_at hl 0 rfl) ?_
  refine lv_bipush (v := 24) hx hb (dk_at dkX1_init 16 rfl) (by decide) ?_
  refine va_newa (atype := .long) (ty := .long) (a0 := (24, .inr (.inl (fun _ => 0)))) hx hb (hts _ (List.mem_cons_of_mem _ mGA_103)) rfl hK hP hD hS hA (fun _ => rfl) (by decide) (by decide) (Nat.le_of_ble_eq_true rfl) (Nat.le_of_ble_eq_true rfl) (Nat.le_of_ble_eq_true rfl) (dk_at dkX1_init 17 rfl) (fun q_9 k_10 H hK hP hD hS => ?_)
  obtain ⟨hP, hD⟩ := gz_both (w := [(h0, .inr (1, [.ref q_1, .ref q_5, .ref q_7, .null, .null, .int 0, .int 0])), (q_1, .inr (3, [.int 0, .int 0, .int 0, .ref (q_2 0), .ref (q_2 1)])), ((q_2 0), .inl ((kk_3 0), 25, .inl (fun _ => 0))), ((q_2 1), .inl ((kk_3 1), 275, .inl (fun _ => 0))), (q_5, .inl (k_6, 24, .inl (fun _ => 0))), (q_7, .inl (k_8, 24, .inl (fun _ => 0))), (q_9, .inl (k_10, 24, .inr (.inl (fun _ => 0))))]) hP hD
  have hK : va_K (dC, dI) vwCl [((kk_3 0), .int), ((kk_3 1), .int), (k_6, .int), (k_8, .int), (k_10, .long)] s := hK
  refine W.widen (k := 6) (n := 377) (Nat.le_of_ble_eq_true rfl) (Nat.le_of_ble_eq_true rfl) ?_
  refine va_putF (D := (dC, dI)) (ci := 1) (v := .ref q_9) (ty := .array .long) (C := RX1) (T := TX1) (N := 7) hx hb hts (fun w h => List.mem_cons_of_mem _ (jnGA_X1 w h)) tyX1 tyX1_ok nmX1 hown hK hP hD hS 0 rfl rfl 3 (by decide) (hts _ (List.mem_cons_of_mem _ mGA_104)) (fun _ h9 => h9) rfl hin rfl (by decide +kernel) rfl rfl (Nat.le_of_ble_eq_true rfl) (dk_at dkX1_init 18 rfl) (fun H locs hP hD hS => ?_)
  obtain ⟨hP, hD⟩ := gz_both (w := [(h0, .inr (1, [.ref q_1, .ref q_5, .ref q_7, .ref q_9, .null, .int 0, .int 0])), (q_1, .inr (3, [.int 0, .int 0, .int 0, .ref (q_2 0), .ref (q_2 1)])), ((q_2 0), .inl ((kk_3 0), 25, .inl (fun _ => 0))), ((q_2 1), .inl ((kk_3 1), 275, .inl (fun _ => 0))), (q_5, .inl (k_6, 24, .inl (fun _ => 0))), (q_7, .inl (k_8, 24, .inl (fun _ => 0))), (q_9, .inl (k_10, 24, .inr (.inl (fun _ => 0))))]) hP hD
  refine lv_aload_n hx hb (dk_at dkX1_init 19 rfl) rfl (lv_at hl 0 rfl) ?_
  refine lv_bipush (v := 25) hx hb (dk_at dkX1_init 20 rfl) (by decide) ?_
  refine va_newa (atype := .int) (ty := .int) (a0 := (25, .inl (fun _ => 0))) hx hb (hts _ (List.mem_cons_of_mem _ mGA_37)) rfl hK hP hD hS hA (fun _ => rfl) (by decide) (by decide) (Nat.le_of_ble_eq_true rfl) (Nat.le_of_ble_eq_true rfl) (Nat.le_of_ble_eq_true rfl) (dk_at dkX1_init 21 rfl) (fun q_11 k_12 H hK hP hD hS => ?_)
  obtain ⟨hP, hD⟩ := gz_both (w := [(h0, .inr (1, [.ref q_1, .ref q_5, .ref q_7, .ref q_9, .null, .int 0, .int 0])), (q_1, .inr (3, [.int 0, .int 0, .int 0, .ref (q_2 0), .ref (q_2 1)])), ((q_2 0), .inl ((kk_3 0), 25, .inl (fun _ => 0))), ((q_2 1), .inl ((kk_3 1), 275, .inl (fun _ => 0))), (q_5, .inl (k_6, 24, .inl (fun _ => 0))), (q_7, .inl (k_8, 24, .inl (fun _ => 0))), (q_9, .inl (k_10, 24, .inr (.inl (fun _ => 0)))), (q_11, .inl (k_12, 25, .inl (fun _ => 0)))]) hP hD
  have hK : va_K (dC, dI) vwCl [((kk_3 0), .int), ((kk_3 1), .int), (k_6, .int), (k_8, .int), (k_10, .long), (k_12, .int)] s := hK
  refine W.widen (k := 7) (n := 402) (Nat.le_of_ble_eq_true rfl) (Nat.le_of_ble_eq_true rfl) ?_
  refine va_putF (D := (dC, dI)) (ci := 1) (v := .ref q_11) (ty := .array .int) (C := RX1) (T := TX1) (N := 7) hx hb hts (fun w h => List.mem_cons_of_mem _ (jnGA_X1 w h)) tyX1 tyX1_ok nmX1 hown hK hP hD hS 0 rfl rfl 4 (by decide) (hts _ (List.mem_cons_of_mem _ mGA_105)) (fun _ h9 => h9) rfl hin rfl (by decide +kernel) rfl rfl (Nat.le_of_ble_eq_true rfl) (dk_at dkX1_init 22 rfl) (fun H locs hP hD hS => ?_)
  obtain ⟨hP, hD⟩ := gz_both (w := [(h0, .inr (1, [.ref q_1, .ref q_5, .ref q_7, .ref q_9, .ref q_11, .int 0, .int 0])), (q_1, .inr (3, [.int 0, .int 0, .int 0, .ref (q_2 0), .ref (q_2 1)])), ((q_2 0), .inl ((kk_3 0), 25, .inl (fun _ => 0))), ((q_2 1), .inl ((kk_3 1), 275, .inl (fun _ => 0))), (q_5, .inl (k_6, 24, .inl (fun _ => 0))), (q_7, .inl (k_8, 24, .inl (fun _ => 0))), (q_9, .inl (k_10, 24, .inr (.inl (fun _ => 0)))), (q_11, .inl (k_12, 25, .inl (fun _ => 0)))]) hP hD
  refine lv_aload_n hx hb (dk_at dkX1_init 23 rfl) rfl (lv_at hl 0 rfl) ?_
  refine lv_iconst (v := 0) hx hb (dk_at dkX1_init 24 rfl) (by decide) ?_
  refine va_put (D := (dC, dI)) (ci := 1) (v := .int 0) (ty := .int) (C := RX1) (T := TX1) (N := 7) hx hb hts (fun w h => List.mem_cons_of_mem _ (jnGA_X1 w h)) tyX1 tyX1_ok nmX1 hown hK hP hD hS 0 rfl rfl 5 (by decide) (hts _ (List.mem_cons_of_mem _ mGA_106)) (fun _ h9 => h9) rfl (by decide +kernel) rfl rfl (Nat.le_of_ble_eq_true rfl) (dk_at dkX1_init 25 rfl) (fun H locs hP hD hS => ?_)
  obtain ⟨hP, hD⟩ := gz_both (w := [(h0, .inr (1, [.ref q_1, .ref q_5, .ref q_7, .ref q_9, .ref q_11, .int 0, .int 0])), (q_1, .inr (3, [.int 0, .int 0, .int 0, .ref (q_2 0), .ref (q_2 1)])), ((q_2 0), .inl ((kk_3 0), 25, .inl (fun _ => 0))), ((q_2 1), .inl ((kk_3 1), 275, .inl (fun _ => 0))), (q_5, .inl (k_6, 24, .inl (fun _ => 0))), (q_7, .inl (k_8, 24, .inl (fun _ => 0))), (q_9, .inl (k_10, 24, .inr (.inl (fun _ => 0)))), (q_11, .inl (k_12, 25, .inl (fun _ => 0)))]) hP hD
  refine lv_aload_n hx hb (dk_at dkX1_init 26 rfl) rfl (lv_at hl 0 rfl) ?_
  refine lv_iconst (v := 0) hx hb (dk_at dkX1_init 27 rfl) (by decide) ?_
  refine va_put (D := (dC, dI)) (ci := 1) (v := .int 0) (ty := .int) (C := RX1) (T := TX1) (N := 7) hx hb hts (fun w h => List.mem_cons_of_mem _ (jnGA_X1 w h)) tyX1 tyX1_ok nmX1 hown hK hP hD hS 0 rfl rfl 6 (by decide) (hts _ (List.mem_cons_of_mem _ mGA_107)) (fun _ h9 => h9) rfl (by decide +kernel) rfl rfl (Nat.le_of_ble_eq_true rfl) (dk_at dkX1_init 28 rfl) (fun H locs hP hD hS => ?_)
  obtain ⟨hP, hD⟩ := gz_both (w := [(h0, .inr (1, [.ref q_1, .ref q_5, .ref q_7, .ref q_9, .ref q_11, .int 0, .int 0])), (q_1, .inr (3, [.int 0, .int 0, .int 0, .ref (q_2 0), .ref (q_2 1)])), ((q_2 0), .inl ((kk_3 0), 25, .inl (fun _ => 0))), ((q_2 1), .inl ((kk_3 1), 275, .inl (fun _ => 0))), (q_5, .inl (k_6, 24, .inl (fun _ => 0))), (q_7, .inl (k_8, 24, .inl (fun _ => 0))), (q_9, .inl (k_10, 24, .inr (.inl (fun _ => 0)))), (q_11, .inl (k_12, 25, .inl (fun _ => 0)))]) hP hD
  have hP9 := hP.sub (ws' := [(h0, .inr (1, [.ref q_1, .ref q_5, .ref q_7, .ref q_9, .ref q_11, .int 0, .int 0])), (q_5, .inl (k_6, 24, .inl (fun _ => 0))), (q_7, .inl (k_8, 24, .inl (fun _ => 0))), (q_9, .inl (k_10, 24, .inr (.inl (fun _ => 0)))), (q_11, .inl (k_12, 25, .inl (fun _ => 0))), (q_1, .inr (3, [.int 0, .int 0, .int 0, .ref (q_2 0), .ref (q_2 1)])), ((q_2 0), .inl ((kk_3 0), 25, .inl (fun _ => 0))), ((q_2 1), .inl ((kk_3 1), 275, .inl (fun _ => 0)))]) [0, 4, 5, 6, 7, 1, 2, 3] rfl
  have hD9 := hD.sub (ws' := [(h0, .inr (1, [.ref q_1, .ref q_5, .ref q_7, .ref q_9, .ref q_11, .int 0, .int 0])), (q_5, .inl (k_6, 24, .inl (fun _ => 0))), (q_7, .inl (k_8, 24, .inl (fun _ => 0))), (q_9, .inl (k_10, 24, .inr (.inl (fun _ => 0)))), (q_11, .inl (k_12, 25, .inl (fun _ => 0))), (q_1, .inr (3, [.int 0, .int 0, .int 0, .ref (q_2 0), .ref (q_2 1)])), ((q_2 0), .inl ((kk_3 0), 25, .inl (fun _ => 0))), ((q_2 1), .inl ((kk_3 1), 275, .inl (fun _ => 0)))]) [0, 4, 5, 6, 7, 1, 2, 3] (by decide +kernel) rfl
  have hK9 := hK.sub (tys' := [(k_6, .int), (k_8, .int), (k_10, .long), (k_12, .int), ((kk_3 0), .int), ((kk_3 1), .int)]) [2, 3, 4, 5, 0, 1] rfl
  exact W.vret hx hb hr (fun t ht hW => ⟨⟨(), rfl, trivial, (fun n => [q_1, (q_2 0), (q_2 1), q_5, q_7, q_9, q_11].getD n 0), (fun n => [(kk_3 0), (kk_3 1), k_6, k_8, k_10, k_12].getD n (kk_3 0)), by rw [ht]; exact hP9, va_K.moved hW.alike hK9, hD9⟩, hS.F ht⟩) hS.2.2 (dk_at dkX1_init 29 rfl)
