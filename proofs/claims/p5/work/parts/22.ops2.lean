/-! more of what both do together -/
theorem aQ_ok {n : Nat} {bt : Nat → Int32} {a : aS} {c : C5} {p : M7} (h : aQ n bt a c p) (ha : a.1 = false) : ∃ s, a = aOk s ∧ c.1 = 0 ∧ c.2.1 = -1 ∧ s ≤ n ∧ c.2.2.1 = nI (ptok (fun j => (bt j).toInt) n s).1 ∧ c.2.2.2.1 = nI s ∧ c.2.2.2.2 = nI (ptok (fun j => (bt j).toInt) n s).2 ∧ p.2.2.2.2.2.2 = 0 ∧ p.1 = 0 ∧ p.2.1 = -1 ∧ p.2.2.1 = nI (ptok (fun j => (bt j).toInt) n s).2 ∧ p.2.2.2.1 = nI s ∧ p.2.2.2.2.1 = nI (pkind (ptok (fun j => (bt j).toInt) n s).1) ∧ (p.2.2.2.2.2.1).toInt = pvalT (fun j => (bt j).toInt) n s := by
  rcases aRC_cases h.1 with ⟨h1, -⟩ | ⟨s, rfl, h2, h3, h4, h5, h6, h7⟩
  · rw [h1] at ha
    exact absurd ha (by decide)
  · have h8 := h.2
    unfold aR7 at h8
    rw [if_neg (show ¬ (aOk s).1 = true from Bool.false_ne_true)] at h8
    obtain ⟨-, g1, g2, g3, g4, g5, g6, g7, g8⟩ := h8
    exact ⟨s, rfl, h2, h3, h4, h5, h6, h7, g1, g2, g3, g5, g6, g7, g8⟩
theorem aQ_sub {n : Nat} {bt tp mi : Nat → Int32} {a : aS} {c : C5} {p : M7} (h : aQ n bt a c p) (h26 : mi 26 = nI n) (hp : own7 mi = p) : aRR (fun j => (bt j).toInt) n a mi := by
  subst hp
  exact ⟨h26, h.2⟩
theorem q_is {n wi : Nat} {bt tp mi : Nat → Int32} {a : aS} {c : C5} {p : M7} (hn : n ≤ 1600) (hT : TR n bt tp) (h : aQ n bt a c p) (ha : a.1 = false) (hw : (stL wi).length ≤ 7) (hp : own7 mi = p) : fX6_isWord c.2.2.1 c.2.2.2.1 c.2.2.2.2 (nI n) bt wi = fX12_isWord mi tp wi ∧ fX12_isWord mi tp wi = if aIs bt n a.2.2.2 (stL wi) = true then 1 else 0 := by
  obtain ⟨s, rfl, h2, h3, h4, h5, h6, h7, g1, g2, g3, g5, g6, g7, g8⟩ := aQ_ok h ha
  subst hp
  have e1 : fX12_isWord mi tp wi = if aIs bt n s (stL wi) = true then 1 else 0 := by
    rw [pr_isWord (s := s) hn h4 hw (by rw [tr_tok hT]; exact g5) g6 (by rw [tr_tok hT]; exact g7), tr_is hT]
  refine ⟨?_, e1⟩
  rw [e1, h5, h6, h7, px_isWord hn h4 hw]
/-- a word that is there, passed -/
theorem pw_is {n wi : Nat} {bt : Nat → Int32} {c : C5} (h1 : fX6_isWord c.2.2.1 c.2.2.2.1 c.2.2.2.2 (nI n) bt wi = 1) {o : Int32 × Int32 × Int32} (ho : o = fX6_step c.1 c.2.2.1 c.2.2.2.1 c.2.2.2.2 (nI n) bt) : ((c.1, c.2.1, o.1, o.2.1, o.2.2) : C5) = fX6_passWord c.1 c.2.1 c.2.2.1 c.2.2.2.1 c.2.2.2.2 (nI n) bt wi := by
  have e1 : fX6_expect c.1 c.2.1 c.2.2.2.1 1 1 = (c.1, c.2.1) := by
    unfold fX6_expect bfX6_expect_13
    rw [if_neg (by decide)]
  subst ho
  unfold fX6_passWord
  rw [h1, cal_b, cal_b, e1]
  rfl
/-- a place's name that must be told -/
theorem q_name {n m : Nat} {bt tp nm lt mi : Nat → Int32} {a : aS} {c : C5} {p : M7} (hn : n ≤ 1600) (hT : TR n bt tp) (h : aQ n bt a c p) (hm : m ≤ 6) (hN : NM m nm lt) {o : Int32 × C5} (ho : o = fX6_passName c.1 c.2.1 c.2.2.1 c.2.2.2.1 c.2.2.2.2 (nI n) bt (nI m) nm 1) {u : Int32 × M7} (hu : u = fX12_placeHere mi tp lt) (h7 : mi 7 = nI m) (h26 : mi 26 = nI n) (hp : own7 mi = p) : ∃ a', aQ n bt a' o.2 u.2 ∧ (a'.1 = false → a.1 = false ∧ fX0_placeNamed (nI m) nm o.1 = u.1 ∧ ∃ j, j < m ∧ u.1 = nI j) := by
  subst ho hu
  have h1 := cx_name (lt := lt) (p1 := 1) hn hm hN true rfl h.1
  have h2 := rx_placeHere (lt := lt) hn hm hT h7 (aQ_sub (tp := tp) h h26 hp)
  refine ⟨aNam bt lt n m true a, ⟨h1.1, h2.1.2⟩, fun q => ?_⟩
  obtain ⟨q1, j, q2, q3⟩ := h2.2 q
  have q4 := aExp_okb (aStep_ok q)
  have q5 := aExp_okb q4.1
  have q6 : decide ((ptok (fun j => (bt j).toInt) n a.2.2.2).2 - a.2.2.2 ≤ 6) = true := by
    have q7 := q4.2
    revert q7
    cases decide ((ptok (fun j => (bt j).toInt) n a.2.2.2).2 - a.2.2.2 ≤ 6) with
    | true => exact fun _ => rfl
    | false => exact fun q7 => q7
  refine ⟨q5.1, ?_, j, q2, q1.trans q3⟩
  obtain ⟨s, rfl, g2, g3, g4, g5, g6, g7, -⟩ := aQ_ok h q5.1
  rw [h1.2, q1, g6, g7]
  exact fnd_class hn hm hN (of_decide_eq_true q5.2) (of_decide_eq_true q6)
