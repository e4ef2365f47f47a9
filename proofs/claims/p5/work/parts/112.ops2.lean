theorem aQ_ok {L n : Nat} {bt : Nat → Int32} {a : aS} {c : C5} {p : M7} (h : aQ L n bt a c p) (ha : a.1 = false) : ∃ s, a = aOk s ∧ c.1 = 0 ∧ c.2.1 = -1 ∧ s ≤ n ∧ c.2.2.1 = nI (ptok (fun j => (bt j).toInt) n s).1 ∧ c.2.2.2.1 = nI s ∧ c.2.2.2.2 = nI (ptok (fun j => (bt j).toInt) n s).2 ∧ p.2.2.2.2.2.2 = 0 ∧ p.1 = 0 ∧ p.2.1 = -1 ∧ p.2.2.1 = nI (ptok (fun j => (bt j).toInt) n s).2 ∧ p.2.2.2.1 = nI s ∧ p.2.2.2.2.1 = nI (pkind (ptok (fun j => (bt j).toInt) n s).1) ∧ (p.2.2.2.2.2.1).toInt = pvalT (fun j => (bt j).toInt) n s := by
  sorry
theorem aQ_sub {L n : Nat} {bt tp mi : Nat → Int32} {a : aS} {c : C5} {p : M7} (h : aQ L n bt a c p) (h26 : mi 26 = nI n) (hp : own7 mi = p) : aRR (fun j => (bt j).toInt) n a mi := by
  sorry
theorem q_is {L n wi : Nat} {bt tp mi : Nat → Int32} {a : aS} {c : C5} {p : M7} (hn : n ≤ 1600) (hT : TR n bt tp) (h : aQ L n bt a c p) (ha : a.1 = false) (hw : (stL wi).length ≤ 7) (hp : own7 mi = p) : fX6_isWord c.2.2.1 c.2.2.2.1 c.2.2.2.2 (nI n) bt wi = fX12_isWord mi tp wi ∧ fX12_isWord mi tp wi = if aIs bt n a.2.2.2 (stL wi) = true then 1 else 0 := by
  sorry
theorem pw_is {n wi : Nat} {bt : Nat → Int32} {c : C5} (h1 : fX6_isWord c.2.2.1 c.2.2.2.1 c.2.2.2.2 (nI n) bt wi = 1) {o : Int32 × Int32 × Int32} (ho : o = fX6_step c.1 c.2.2.1 c.2.2.2.1 c.2.2.2.2 (nI n) bt) : ((c.1, c.2.1, o.1, o.2.1, o.2.2) : C5) = fX6_passWord c.1 c.2.1 c.2.2.1 c.2.2.2.1 c.2.2.2.2 (nI n) bt wi := by
  sorry
theorem q_name {L n m : Nat} {bt tp nm lt mi : Nat → Int32} {a : aS} {c : C5} {p : M7} (hn : n ≤ 1600) (hT : TR n bt tp) (h : aQ L n bt a c p) (hm : m ≤ 6) (hN : NM m nm lt) {o : Int32 × C5} (ho : o = fX6_passName c.1 c.2.1 c.2.2.1 c.2.2.2.1 c.2.2.2.2 (nI n) bt (nI m) nm 1) {u : Int32 × M7} (hu : u = fX12_placeHere mi tp lt) (h7 : mi 7 = nI m) (h26 : mi 26 = nI n) (hp : own7 mi = p) : ∃ a', aQ L n bt a' o.2 u.2 ∧ (a'.1 = false → a.1 = false ∧ fX0_placeNamed (nI m) nm o.1 = u.1 ∧ ∃ j, j < m ∧ u.1 = nI j) := by
  sorry
