def REL0 (vx : Nat → Int32) (fx : Nat → Nat → Int32) (mi : Nat → Int32) (fm : Nat → Nat → Int32) : Prop :=
  (∃ n : Nat, n ≤ 1600 ∧ vx 10 = nI n ∧ mi 26 = nI n ∧ TR n (fx 0) (fm 13)) ∧ vx 5 = mi 27 ∧ vx 6 = mi 28
theorem rl_feed {vx : Nat → Int32} {fx : Nat → Nat → Int32} {gx : Nat → Nat → Int64} {mi : Nat → Int32} {fm : Nat → Nat → Int32} (h : REL0 vx fx mi fm) {r r2 : Int32} {v : Nat → Int32} {f : Nat → Nat → Int32} {g : Nat → Nat → Int64} {mi2 : Nat → Int32} {fm2 : Nat → Nat → Int32} {p1 p2 p3 p4 p5 : Int32} (hx : (r, v, f, g) = xs_feed vx fx gx p1 p2 p3 p4 p5) (hm : (r2, mi2, fm2) = ms_feed mi fm p1 p2 p3 p4 p5) : REL0 v f mi2 fm2 ∧ r = r2 := by
  sorry
theorem rl_end {vx : Nat → Int32} {fx : Nat → Nat → Int32} {gx : Nat → Nat → Int64} {mi : Nat → Int32} {fm : Nat → Nat → Int32} (h : REL0 vx fx mi fm) {r r2 : Int32} {v : Nat → Int32} {f : Nat → Nat → Int32} {g : Nat → Nat → Int64} {mi2 : Nat → Int32} {fm2 : Nat → Nat → Int32} {p1 : Int32} (hx : (r, v, f, g) = xs_end vx fx gx p1) (hm : (r2, mi2, fm2) = ms_end mi fm p1) : REL0 v f mi2 fm2 ∧ r = r2 := by
  sorry
theorem rl_fault {vx : Nat → Int32} {fx : Nat → Nat → Int32} {gx : Nat → Nat → Int64} {mi : Nat → Int32} {fm : Nat → Nat → Int32} (h : REL0 vx fx mi fm) {r r2 : Int32} {v : Nat → Int32} {f : Nat → Nat → Int32} {g : Nat → Nat → Int64} {mi2 : Nat → Int32} {fm2 : Nat → Nat → Int32} {p1 : Int32} (hx : (r, v, f, g) = xs_fault vx fx gx p1) (hm : (r2, mi2, fm2) = ms_fault mi fm p1) : REL0 v f mi2 fm2 ∧ r = r2 := by
  sorry
theorem rl_almanac {vx : Nat → Int32} {fx : Nat → Nat → Int32} {gx : Nat → Nat → Int64} {mi : Nat → Int32} {fm : Nat → Nat → Int32} (h : REL0 vx fx mi fm) {r r2 : Int32} {v : Nat → Int32} {f : Nat → Nat → Int32} {g : Nat → Nat → Int64} {mi2 : Nat → Int32} {fm2 : Nat → Nat → Int32} (hx : (r, v, f, g) = xs_almanac vx fx gx) (hm : (r2, mi2, fm2) = ms_almanac mi fm) : REL0 v f mi2 fm2 ∧ r = r2 := by
  sorry
