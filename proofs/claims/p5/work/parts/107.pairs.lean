def aWrd (f : Nat → Int32) (n : Nat) (L : List Int32) (a : aS) : aS := aStep (fun j => (f j).toInt) n (aExp (aIs f n a.2.2.2 L) 1 a)
theorem aStep_ok {b : Nat → Int} {n : Nat} {a : aS} (h : (aStep b n a).1 = false) : a.1 = false := by
  sorry
theorem aExp_okb {c : Bool} {k : Int32} {a : aS} (h : (aExp c k a).1 = false) : a.1 = false ∧ c = true := by
  sorry
theorem aNum_okb {b : Nat → Int} {n : Nat} {lo hi : Int} {a : aS} (h : (aNum b n lo hi a).1 = false) : a.1 = false := (aExp_okb (aExp_okb (aStep_ok h)).1).1
theorem aWrd_okb {f : Nat → Int32} {n : Nat} {L : List Int32} {a : aS} (h : (aWrd f n L a).1 = false) : a.1 = false := (aExp_okb (aStep_ok h)).1
abbrev C5 : Type := Int32 × Int32 × Int32 × Int32 × Int32
abbrev M7 : Type := Int32 × Int32 × Int32 × Int32 × Int32 × Int32 × Int32
theorem cal_out {α β : Type} {f : α → β} {a : α} {X : β} (h : X = cal f a) : ∃ o, o = a ∧ X = f o := ⟨a, rfl, h⟩
def aR7 (t : Nat → Int) (n : Nat) (a : aS) (p : M7) : Prop :=
  if a.1 = true then a.2.1 ≠ 0 ∧ p.2.2.2.2.2.2 = 1 ∧ p.1 = a.2.1 ∧ p.2.1 = a.2.2.1
  else a = aOk a.2.2.2 ∧ p.2.2.2.2.2.2 = 0 ∧ p.1 = 0 ∧ p.2.1 = -1 ∧ a.2.2.2 ≤ n ∧ p.2.2.1 = nI (ptok t n a.2.2.2).2 ∧ p.2.2.2.1 = nI a.2.2.2 ∧ p.2.2.2.2.1 = nI (pkind (ptok t n a.2.2.2).1) ∧ (p.2.2.2.2.2.1).toInt = pvalT t n a.2.2.2
def aB (L n : Nat) (a : aS) : Prop := a.1 = false → L ≤ a.2.2.2 ∧ a.2.2.2 ≤ n
theorem aB_exp {L n : Nat} {c : Bool} {k : Int32} {a : aS} (h : aB L n a) : aB L n (aExp c k a) := by
  sorry
theorem aNext_ge (b : Nat → Int) {n s : Nat} (h : s ≤ n) : s ≤ aNext b n s := by
  sorry
theorem aB_step {L n : Nat} {b : Nat → Int} {a : aS} (h : aB L n a) : aB L n (aStep b n a) := by
  sorry
theorem aB_bad {L n : Nat} {a : aS} (h : a.1 = true) : aB L n a := fun q => absurd (q.symm.trans h) (by decide)
def aQ (L n : Nat) (bt : Nat → Int32) (a : aS) (c : C5) (p : M7) : Prop := aRC (fun j => (bt j).toInt) n a c.1 c.2.1 c.2.2.1 c.2.2.2.1 c.2.2.2.2 ∧ aR7 (fun j => (bt j).toInt) n a p ∧ aB L n a
theorem aQ_RR {L n : Nat} {bt tp mi : Nat → Int32} {a : aS} {c : C5} {p : M7} (h : aQ L n bt a c p) (hT : TR n bt tp) (h26 : mi 26 = nI n) (hp : own7 mi = p) : aRR (fun j => (tp j).toInt) n a mi := by
  sorry
theorem aQ_of {L n : Nat} {bt tp mi : Nat → Int32} {a : aS} {c : C5} {u : M7} (hT : TR n bt tp) (h1 : aRC (fun j => (bt j).toInt) n a c.1 c.2.1 c.2.2.1 c.2.2.2.1 c.2.2.2.2) (h2 : aRR (fun j => (tp j).toInt) n a (mu7 mi u)) (hb : aB L n a) : aQ L n bt a c u := ⟨h1, ((tr_RR hT a _).mp h2).2, hb⟩
theorem aQ_fk {L n : Nat} {bt : Nat → Int32} {a : aS} {c : C5} {p : M7} (h : aQ L n bt a c p) : c.1 = 0 ↔ a.1 = false := by
  sorry
theorem aQ_33 {L n : Nat} {bt : Nat → Int32} {a : aS} {c : C5} {p : M7} (h : aQ L n bt a c p) : p.2.2.2.2.2.2 = 0 ↔ a.1 = false := by
  sorry
theorem q_word {L n wi : Nat} {bt tp mi : Nat → Int32} {a : aS} {c : C5} {p : M7} (hn : n ≤ 1600) (hT : TR n bt tp) (h : aQ L n bt a c p) {o : C5} (ho : o = fX6_passWord c.1 c.2.1 c.2.2.1 c.2.2.2.1 c.2.2.2.2 (nI n) bt wi) {u : M7} (hu : u = fX12_word mi tp wi) (hw : (stL wi).length ≤ 7) (h26 : mi 26 = nI n) (hp : own7 mi = p) : ∃ a', aQ L n bt a' o u ∧ (a'.1 = false → a.1 = false) := by
  sorry
theorem q_num {L n : Nat} {bt tp mi : Nat → Int32} {a : aS} {c : C5} {p : M7} {p1 p2 : Int32} (hn : n ≤ 1600) (hT : TR n bt tp) (h : aQ L n bt a c p) {o : Int32 × C5} (ho : o = fX6_passNumber c.1 c.2.1 c.2.2.1 c.2.2.2.1 c.2.2.2.2 (nI n) bt p1 p2) {u : Int32 × M7} (hu : u = fX12_number mi tp p1 p2) (lo hi : Int) (h1 : p1.toInt = lo) (h2 : p2.toInt = hi) (hl : 0 ≤ lo) (hh : hi ≤ 99999) (h26 : mi 26 = nI n) (hp : own7 mi = p) : ∃ a', aQ L n bt a' o.2 u.2 ∧ (a'.1 = false → a.1 = false ∧ o.1 = u.1 ∧ lo ≤ u.1.toInt ∧ u.1.toInt ≤ hi) := by
  sorry
theorem q_nb {L n wi : Nat} {bt tp mi : Nat → Int32} {a : aS} {c : C5} {p : M7} {p1 p2 : Int32} (hn : n ≤ 1600) (hT : TR n bt tp) (h : aQ L n bt a c p) {o1 : C5} (ho1 : o1 = fX6_passWord c.1 c.2.1 c.2.2.1 c.2.2.2.1 c.2.2.2.2 (nI n) bt wi) {o : Int32 × C5} (ho : o = fX6_passNumber o1.1 o1.2.1 o1.2.2.1 o1.2.2.2.1 o1.2.2.2.2 (nI n) bt p1 p2) {u : Int32 × M7} (hu : u = fX12_numberBehind mi tp p1 p2 wi) (hw : (stL wi).length ≤ 7) (lo hi : Int) (h1 : p1.toInt = lo) (h2 : p2.toInt = hi) (hl : 0 ≤ lo) (hh : hi ≤ 99999) (h26 : mi 26 = nI n) (hp : own7 mi = p) : ∃ a', aQ L n bt a' o.2 u.2 ∧ (a'.1 = false → a.1 = false ∧ o.1 = u.1 ∧ lo ≤ u.1.toInt ∧ u.1.toInt ≤ hi) := by
  sorry
theorem ln_head {L n : Nat} {bt tp mi : Nat → Int32} {a : aS} {c : C5} {p : M7} (hn : n ≤ 1600) (hT : TR n bt tp) (h : aQ L n bt a c p) {em ef el : Int32} {X : Int32 × Int32 × Int32 × Int32 × Int32 × Int32 × Int32 × Int32} (hX : X = fX6_readFirst c.1 c.2.1 c.2.2.1 c.2.2.2.1 c.2.2.2.2 (nI n) bt em ef el) {Y : Int32 × Int32 × Int32 × M7} (hY : Y = fX12_readsHead mi tp) (h26 : mi 26 = nI n) (hp : own7 mi = p) : ∃ a', aQ L n bt a' (X.1, X.2.1, X.2.2.1, X.2.2.2.1, X.2.2.2.2.1) Y.2.2.2 ∧ (a'.1 = false → a.1 = false ∧ X.2.2.2.2.2 = (Y.1, Y.2.1, Y.2.2.1) ∧ 2 ≤ Y.1.toInt ∧ Y.1.toInt ≤ 24 ∧ 1 ≤ Y.2.1.toInt ∧ Y.2.1.toInt ≤ 5 ∧ 1 ≤ Y.2.2.1.toInt ∧ Y.2.2.1.toInt ≤ 5) := by
  sorry
