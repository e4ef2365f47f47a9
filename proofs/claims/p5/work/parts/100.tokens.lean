theorem cal_b {α β : Type} (f : α → β) (a : α) : cal f a = f a := rfl
theorem pz_add1 {a : Int32} (h : a.toInt < 2147483647) : (a + (1 : Int32)).toInt = a.toInt + 1 := by
  sorry
def prun (P : Nat → Bool) : Nat → Nat → Nat
  | 0, p => p
  | k + 1, p => if P p = true then prun P k (p + 1) else p
theorem prun_le (P : Nat → Bool) : ∀ k p : Nat, p ≤ prun P k p ∧ prun P k p ≤ p + k := by
  sorry
theorem prun_eq {P Q : Nat → Bool} : ∀ k p : Nat, (∀ j, p ≤ j → j < p + k → P j = Q j) → prun P k p = prun Q k p := by
  sorry
def cL (x : Int) : Bool := decide (97 ≤ x ∧ x ≤ 122)
def cD (x : Int) : Bool := decide (48 ≤ x ∧ x ≤ 57)
def cB (x : Int) : Bool := decide (x = 32 ∨ x = 10)
theorem px_isLetter (o : Int32) : fX6_isLetter o = if cL o.toInt = true then 1 else 0 := by
  sorry
theorem px_isDigit (o : Int32) : fX6_isDigit o = if cD o.toInt = true then 1 else 0 := by
  sorry
theorem px_isBlank (o : Int32) : fX6_isBlank o = if cB o.toInt = true then 1 else 0 := by
  sorry
theorem px_byteAt {n e : Nat} (bt : Nat → Int32) (hn : n < 2147483648) (h : e < n) : fX6_byteAt (nI n) bt (nI e) = bt e := by
  sorry
theorem px_byteEnd {n : Nat} (bt : Nat → Int32) (hn : n < 2147483648) : fX6_byteAt (nI n) bt (nI n) = -1 := by
  sorry
theorem px_step3 {fk tok st en : Int32} {bt : Nat → Int32} {n : Nat} (hn : n ≤ 1600) : ∀ (k e z : Nat) (t s : Int32), e + k = n → k < z → (lfX6_step fk tok st en (nI n) bt z).2.2 t s (nI e) = (t, s, nI (prun (fun j => cD (bt j).toInt) k e)) := by
  sorry
theorem px_step2 {fk tok st en : Int32} {bt : Nat → Int32} {n : Nat} (hn : n ≤ 1600) : ∀ (k e z : Nat) (t s : Int32), e + k = n → k < z → (lfX6_step fk tok st en (nI n) bt z).2.1 t s (nI e) = (t, s, nI (prun (fun j => cL (bt j).toInt) k e)) := by
  sorry
def ptok (b : Nat → Int) (n s : Nat) : Nat × Nat :=
  if s < n then
    if cL (b s) = true then (2, prun (fun j => cL (b j)) (n - s) s)
    else if cD (b s) = true then (3, prun (fun j => cD (b j)) (n - s) s)
    else if b s = 59 then (4, s + 1) else (1, s + 1)
  else (0, s)
theorem px_step57 {fk tok st en : Int32} {bt : Nat → Int32} {n : Nat} (hn : n ≤ 1600) (s z : Nat) (t e : Int32) (hs : s ≤ n) (hz : n < z) : bfX6_step_57 fk tok st en (nI n) bt (lfX6_step fk tok st en (nI n) bt z) t (nI s) e = (nI (ptok (fun j => (bt j).toInt) n s).1, nI s, nI (ptok (fun j => (bt j).toInt) n s).2) := by
  sorry
theorem px_step1 {fk tok st en : Int32} {bt : Nat → Int32} {n : Nat} (hn : n ≤ 1600) : ∀ (k s z : Nat), s + k = n → n + k + 1 < z → (lfX6_step fk tok st en (nI n) bt z).1 (nI s) = (nI (ptok (fun j => (bt j).toInt) n (prun (fun j => cB (bt j).toInt) k s)).1, nI (prun (fun j => cB (bt j).toInt) k s), nI (ptok (fun j => (bt j).toInt) n (prun (fun j => cB (bt j).toInt) k s)).2) := by
  sorry
theorem px_step {tok st : Int32} {bt : Nat → Int32} {n p : Nat} (hn : n ≤ 1600) (hp : p ≤ n) : fX6_step 0 tok st (nI p) (nI n) bt = (nI (ptok (fun j => (bt j).toInt) n (prun (fun j => cB (bt j).toInt) (n - p) p)).1, nI (prun (fun j => cB (bt j).toInt) (n - p) p), nI (ptok (fun j => (bt j).toInt) n (prun (fun j => cB (bt j).toInt) (n - p) p)).2) := by
  sorry
