/-! both sides together -/
def aWrd (f : Nat → Int32) (n : Nat) (L : List Int32) (a : aS) : aS := aStep (fun j => (f j).toInt) n (aExp (aIs f n a.2.2.2 L) 1 a)
theorem aStep_ok {b : Nat → Int} {n : Nat} {a : aS} (h : (aStep b n a).1 = false) : a.1 = false := by
  cases hq : a.1 with
  | false => rfl
  | true =>
    unfold aStep at h
    rw [if_pos hq, hq] at h
    exact h
theorem aExp_okb {c : Bool} {k : Int32} {a : aS} (h : (aExp c k a).1 = false) : a.1 = false ∧ c = true := by
  unfold aExp at h
  cases hq : a.1 with
  | true =>
    rw [if_pos hq, hq] at h
    exact absurd h (by intro q; cases q)
  | false =>
    refine ⟨rfl, ?_⟩
    rw [if_neg (by rw [hq]; decide)] at h
    cases c with
    | true => rfl
    | false =>
      rw [if_neg (by decide)] at h
      exact absurd h (by intro q; cases q)
theorem aNum_okb {b : Nat → Int} {n : Nat} {lo hi : Int} {a : aS} (h : (aNum b n lo hi a).1 = false) : a.1 = false := (aExp_okb (aExp_okb (aStep_ok h)).1).1
theorem aWrd_okb {f : Nat → Int32} {n : Nat} {L : List Int32} {a : aS} (h : (aWrd f n L a).1 = false) : a.1 = false := (aExp_okb (aStep_ok h)).1
/-! what both stand at -/
abbrev C5 : Type := Int32 × Int32 × Int32 × Int32 × Int32
abbrev M7 : Type := Int32 × Int32 × Int32 × Int32 × Int32 × Int32 × Int32
theorem cal_out {α β : Type} {f : α → β} {a : α} {X : β} (h : X = cal f a) : ∃ o, o = a ∧ X = f o := ⟨a, rfl, h⟩
def aR7 (t : Nat → Int) (n : Nat) (a : aS) (p : M7) : Prop :=
  if a.1 = true then a.2.1 ≠ 0 ∧ p.2.2.2.2.2.2 = 1 ∧ p.1 = a.2.1 ∧ p.2.1 = a.2.2.1
  else a = aOk a.2.2.2 ∧ p.2.2.2.2.2.2 = 0 ∧ p.1 = 0 ∧ p.2.1 = -1 ∧ a.2.2.2 ≤ n ∧ p.2.2.1 = nI (ptok t n a.2.2.2).2 ∧ p.2.2.2.1 = nI a.2.2.2 ∧ p.2.2.2.2.1 = nI (pkind (ptok t n a.2.2.2).1) ∧ (p.2.2.2.2.2.1).toInt = pvalT t n a.2.2.2
def aQ (n : Nat) (bt : Nat → Int32) (a : aS) (c : C5) (p : M7) : Prop := aRC (fun j => (bt j).toInt) n a c.1 c.2.1 c.2.2.1 c.2.2.2.1 c.2.2.2.2 ∧ aR7 (fun j => (bt j).toInt) n a p
theorem aQ_RR {n : Nat} {bt tp mi : Nat → Int32} {a : aS} {c : C5} {p : M7} (h : aQ n bt a c p) (hT : TR n bt tp) (h26 : mi 26 = nI n) (hp : own7 mi = p) : aRR (fun j => (tp j).toInt) n a mi := by
  subst hp
  exact (tr_RR hT a mi).mpr ⟨h26, h.2⟩
theorem aQ_of {n : Nat} {bt tp mi : Nat → Int32} {a : aS} {c : C5} {u : M7} (hT : TR n bt tp) (h1 : aRC (fun j => (bt j).toInt) n a c.1 c.2.1 c.2.2.1 c.2.2.2.1 c.2.2.2.2) (h2 : aRR (fun j => (tp j).toInt) n a (mu7 mi u)) : aQ n bt a c u := ⟨h1, ((tr_RR hT a _).mp h2).2⟩
theorem aQ_fk {n : Nat} {bt : Nat → Int32} {a : aS} {c : C5} {p : M7} (h : aQ n bt a c p) : c.1 = 0 ↔ a.1 = false := by
  rcases aRC_cases h.1 with ⟨h1, h2, h3, -⟩ | ⟨s, h1, h3, -⟩
  · constructor
    · intro q
      exact absurd (h3.symm.trans q) h2
    · intro q
      exact absurd (q.symm.trans h1) (by decide)
  · constructor
    · intro _
      rw [h1]
      rfl
    · intro _
      exact h3
theorem aQ_33 {n : Nat} {bt : Nat → Int32} {a : aS} {c : C5} {p : M7} (h : aQ n bt a c p) : p.2.2.2.2.2.2 = 0 ↔ a.1 = false := by
  have h2 := h.2
  unfold aR7 at h2
  by_cases h1 : a.1 = true
  · rw [if_pos h1] at h2
    rw [h2.2.1, h1]
    exact ⟨fun q => absurd q (by decide), fun q => absurd q (by decide)⟩
  · rw [if_neg h1] at h2
    exact ⟨fun _ => by simpa using h1, fun _ => h2.2.1⟩
/-- the ops, one by one -/
theorem q_word {n wi : Nat} {bt tp mi : Nat → Int32} {a : aS} {c : C5} {p : M7} (hn : n ≤ 1600) (hT : TR n bt tp) (h : aQ n bt a c p) {o : C5} (ho : o = fX6_passWord c.1 c.2.1 c.2.2.1 c.2.2.2.1 c.2.2.2.2 (nI n) bt wi) {u : M7} (hu : u = fX12_word mi tp wi) (hw : (stL wi).length ≤ 7) (h26 : mi 26 = nI n) (hp : own7 mi = p) : ∃ a', aQ n bt a' o u ∧ (a'.1 = false → a.1 = false) := by
  subst ho hu
  have h1 := rx_word (wi := wi) hn hw (aQ_RR h hT h26 hp)
  rw [tr_is hT, tr_step hT] at h1
  exact ⟨aWrd bt n (stL wi) a, aQ_of hT (cx_word hn hw h.1) h1, aWrd_okb⟩
theorem q_num {n : Nat} {bt tp mi : Nat → Int32} {a : aS} {c : C5} {p : M7} {p1 p2 : Int32} (hn : n ≤ 1600) (hT : TR n bt tp) (h : aQ n bt a c p) {o : Int32 × C5} (ho : o = fX6_passNumber c.1 c.2.1 c.2.2.1 c.2.2.2.1 c.2.2.2.2 (nI n) bt p1 p2) {u : Int32 × M7} (hu : u = fX12_number mi tp p1 p2) (lo hi : Int) (h1 : p1.toInt = lo) (h2 : p2.toInt = hi) (hl : 0 ≤ lo) (hh : hi ≤ 99999) (h26 : mi 26 = nI n) (hp : own7 mi = p) : ∃ a', aQ n bt a' o.2 u.2 ∧ (a'.1 = false → a.1 = false ∧ o.1 = u.1 ∧ lo ≤ u.1.toInt ∧ u.1.toInt ≤ hi) := by
  subst ho hu
  have hc := cx_number (bt := bt) (p1 := p1) (p2 := p2) hn lo hi h1 h2 (Or.inl hh) hl h.1
  rw [show min hi 100000 = hi by omega] at hc
  have hr := rx_number (p1 := p1) (p2 := p2) hn lo hi h1 h2 (aQ_RR h hT h26 hp)
  rw [tr_num hT, tr_val hT] at hr
  refine ⟨_, aQ_of hT hc.1 hr.1, fun q => ⟨aNum_okb q, ?_⟩⟩
  have h3 := hc.2 q
  have h4 := hr.2 q
  exact ⟨Int32.toInt_inj.mp (by omega), by omega, by omega⟩
theorem q_nb {n wi : Nat} {bt tp mi : Nat → Int32} {a : aS} {c : C5} {p : M7} {p1 p2 : Int32} (hn : n ≤ 1600) (hT : TR n bt tp) (h : aQ n bt a c p) {o1 : C5} (ho1 : o1 = fX6_passWord c.1 c.2.1 c.2.2.1 c.2.2.2.1 c.2.2.2.2 (nI n) bt wi) {o : Int32 × C5} (ho : o = fX6_passNumber o1.1 o1.2.1 o1.2.2.1 o1.2.2.2.1 o1.2.2.2.2 (nI n) bt p1 p2) {u : Int32 × M7} (hu : u = fX12_numberBehind mi tp p1 p2 wi) (hw : (stL wi).length ≤ 7) (lo hi : Int) (h1 : p1.toInt = lo) (h2 : p2.toInt = hi) (hl : 0 ≤ lo) (hh : hi ≤ 99999) (h26 : mi 26 = nI n) (hp : own7 mi = p) : ∃ a', aQ n bt a' o.2 u.2 ∧ (a'.1 = false → a.1 = false ∧ o.1 = u.1 ∧ lo ≤ u.1.toInt ∧ u.1.toInt ≤ hi) := by
  unfold fX12_numberBehind at hu
  obtain ⟨u1, f1, hu⟩ := cal_out hu
  obtain ⟨u2, f2, hu⟩ := cal_out hu
  obtain ⟨a1, k1, q1⟩ := q_word hn hT h ho1 f1 hw h26 hp
  obtain ⟨a2, k2, q2⟩ := q_num hn hT k1 ho f2 lo hi h1 h2 hl hh h26 rfl
  have e : u = u2 := hu
  rw [e]
  exact ⟨a2, k2, fun q => ⟨q1 (q2 q).1, (q2 q).2⟩⟩
/-! the first line -/
theorem ln_head {n : Nat} {bt tp mi : Nat → Int32} {a : aS} {c : C5} {p : M7} (hn : n ≤ 1600) (hT : TR n bt tp) (h : aQ n bt a c p) {em ef el : Int32} {X : Int32 × Int32 × Int32 × Int32 × Int32 × Int32 × Int32 × Int32} (hX : X = fX6_readFirst c.1 c.2.1 c.2.2.1 c.2.2.2.1 c.2.2.2.2 (nI n) bt em ef el) {Y : Int32 × Int32 × Int32 × M7} (hY : Y = fX12_readsHead mi tp) (h26 : mi 26 = nI n) (hp : own7 mi = p) : ∃ a', aQ n bt a' (X.1, X.2.1, X.2.2.1, X.2.2.2.1, X.2.2.2.2.1) Y.2.2.2 ∧ (a'.1 = false → a.1 = false ∧ X.2.2.2.2.2 = (Y.1, Y.2.1, Y.2.2.1) ∧ 2 ≤ Y.1.toInt ∧ Y.1.toInt ≤ 24 ∧ 1 ≤ Y.2.1.toInt ∧ Y.2.1.toInt ≤ 5 ∧ 1 ≤ Y.2.2.1.toInt ∧ Y.2.2.1.toInt ≤ 5) := by
  unfold fX6_readFirst at hX
  obtain ⟨o1, e1, hX⟩ := cal_out hX
  obtain ⟨o2, e2, hX⟩ := cal_out hX
  obtain ⟨o3, e3, hX⟩ := cal_out hX
  obtain ⟨o4, e4, hX⟩ := cal_out hX
  obtain ⟨o5, e5, hX⟩ := cal_out hX
  obtain ⟨o6, e6, hX⟩ := cal_out hX
  obtain ⟨o7, e7, hX⟩ := cal_out hX
  unfold bfX6_readFirst_77 at hX
  unfold fX12_readsHead at hY
  obtain ⟨u1, f1, hY⟩ := cal_out hY
  obtain ⟨u2, f2, hY⟩ := cal_out hY
  obtain ⟨u3, f3, hY⟩ := cal_out hY
  obtain ⟨u4, f4, hY⟩ := cal_out hY
  obtain ⟨a1, k1, q1⟩ := q_word hn hT h e1 f1 (by decide) h26 hp
  obtain ⟨a2, k2, q2⟩ := q_nb hn hT k1 e2 e3 f2 (by decide) 2 24 (by decide) (by decide) (by decide) (by decide) h26 rfl
  obtain ⟨a3, k3, q3⟩ := q_nb hn hT k2 e4 e5 f3 (by decide) 1 5 (by decide) (by decide) (by decide) (by decide) h26 rfl
  obtain ⟨a4, k4, q4⟩ := q_nb hn hT k3 e6 e7 f4 (by decide) 1 5 (by decide) (by decide) (by decide) (by decide) h26 rfl
  subst hY
  refine ⟨a4, ?_, fun q => ?_⟩
  · split at hX
    · subst hX
      exact k4
    · subst hX
      exact k4
  · obtain ⟨r3, r4⟩ := q4 q
    obtain ⟨r2, s3⟩ := q3 r3
    obtain ⟨r1, s2⟩ := q2 r2
    rw [if_pos ((aQ_fk k4).mpr q)] at hX
    subst hX
    refine ⟨q1 r1, ?_, s2.2.1, s2.2.2, s3.2.1, s3.2.2, r4.2.1, r4.2.2⟩
    show (o3.1, o5.1, o7.1) = (u2.1, u3.1, u4.1)
    rw [s2.1, s3.1, r4.1]
