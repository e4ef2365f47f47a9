abbrev aS : Type := Bool × Int32 × Int32 × Nat
def aOk (s : Nat) : aS := (false, 0, -1, s)
def aBad (k p : Int32) : aS := (true, k, p, 0)
def aNext (b : Nat → Int) (n s : Nat) : Nat := prun (fun j => cB (b j)) (n - (ptok b n s).2) (ptok b n s).2
def aStep (b : Nat → Int) (n : Nat) (a : aS) : aS := if a.1 = true then a else aOk (aNext b n a.2.2.2)
def aExp (c : Bool) (k : Int32) (a : aS) : aS := if a.1 = true then a else if c = true then a else aBad k (nI a.2.2.2)
def aRC (b : Nat → Int) (n : Nat) (a : aS) (fk fp tok st en : Int32) : Prop :=
  if a.1 = true then a.2.1 ≠ 0 ∧ fk = a.2.1 ∧ fp = a.2.2.1
  else a = aOk a.2.2.2 ∧ fk = 0 ∧ fp = -1 ∧ a.2.2.2 ≤ n ∧ tok = nI (ptok b n a.2.2.2).1 ∧ st = nI a.2.2.2 ∧ en = nI (ptok b n a.2.2.2).2
theorem aRC_bad {b : Nat → Int} {n : Nat} {k p tok st en : Int32} (hk : k ≠ 0) : aRC b n (aBad k p) k p tok st en := by
  sorry
theorem aRC_ok {b : Nat → Int} {n s : Nat} (h : s ≤ n) : aRC b n (aOk s) 0 (-1) (nI (ptok b n s).1) (nI s) (nI (ptok b n s).2) := by
  sorry
theorem aRC_cases {b : Nat → Int} {n : Nat} {a : aS} {fk fp tok st en : Int32} (h : aRC b n a fk fp tok st en) : (a.1 = true ∧ a.2.1 ≠ 0 ∧ fk = a.2.1 ∧ fp = a.2.2.1) ∨ ∃ s, a = aOk s ∧ fk = 0 ∧ fp = -1 ∧ s ≤ n ∧ tok = nI (ptok b n s).1 ∧ st = nI s ∧ en = nI (ptok b n s).2 := by
  sorry
theorem ptok_le (b : Nat → Int) {n s : Nat} (h : s ≤ n) : s ≤ (ptok b n s).2 ∧ (ptok b n s).2 ≤ n := by
  sorry
theorem aNext_le (b : Nat → Int) {n s : Nat} (h : s ≤ n) : aNext b n s ≤ n := by
  sorry
theorem cx_expect {b : Nat → Int} {n : Nat} {a : aS} {fk fp tok st en : Int32} (c : Bool) {k p1 : Int32} (hk : k ≠ 0) (hp : a.1 = false → p1 = if c = true then 1 else 0) (h : aRC b n a fk fp tok st en) : aRC b n (aExp c k a) (fX6_expect fk fp st p1 k).1 (fX6_expect fk fp st p1 k).2 tok st en := by
  sorry
theorem cx_step {bt : Nat → Int32} {n : Nat} {a : aS} {fk fp tok st en : Int32} (hn : n ≤ 1600) (h : aRC (fun j => (bt j).toInt) n a fk fp tok st en) : aRC (fun j => (bt j).toInt) n (aStep (fun j => (bt j).toInt) n a) fk fp (fX6_step fk tok st en (nI n) bt).1 (fX6_step fk tok st en (nI n) bt).2.1 (fX6_step fk tok st en (nI n) bt).2.2 := by
  sorry
