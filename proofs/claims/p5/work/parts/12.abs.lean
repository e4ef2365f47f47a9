/-! one reading of a text that both keep to: faulted (kind, place), or at a token that begins at s -/
abbrev aS : Type := Bool × Int32 × Int32 × Nat
def aOk (s : Nat) : aS := (false, 0, -1, s)
def aBad (k p : Int32) : aS := (true, k, p, 0)
/-- the next token -/
def aNext (b : Nat → Int) (n s : Nat) : Nat := prun (fun j => cB (b j)) (n - (ptok b n s).2) (ptok b n s).2
def aStep (b : Nat → Int) (n : Nat) (a : aS) : aS := if a.1 = true then a else aOk (aNext b n a.2.2.2)
def aExp (c : Bool) (k : Int32) (a : aS) : aS := if a.1 = true then a else if c = true then a else aBad k (nI a.2.2.2)
/-- the class's reader stands so -/
def aRC (b : Nat → Int) (n : Nat) (a : aS) (fk fp tok st en : Int32) : Prop :=
  if a.1 = true then a.2.1 ≠ 0 ∧ fk = a.2.1 ∧ fp = a.2.2.1
  else a = aOk a.2.2.2 ∧ fk = 0 ∧ fp = -1 ∧ a.2.2.2 ≤ n ∧ tok = nI (ptok b n a.2.2.2).1 ∧ st = nI a.2.2.2 ∧ en = nI (ptok b n a.2.2.2).2
theorem aRC_bad {b : Nat → Int} {n : Nat} {k p tok st en : Int32} (hk : k ≠ 0) : aRC b n (aBad k p) k p tok st en := by
  unfold aRC aBad
  rw [if_pos rfl]
  exact ⟨hk, rfl, rfl⟩
theorem aRC_ok {b : Nat → Int} {n s : Nat} (h : s ≤ n) : aRC b n (aOk s) 0 (-1) (nI (ptok b n s).1) (nI s) (nI (ptok b n s).2) := by
  unfold aRC aOk
  rw [if_neg Bool.false_ne_true]
  exact ⟨rfl, rfl, rfl, h, rfl, rfl, rfl⟩
/-- both ways -/
theorem aRC_cases {b : Nat → Int} {n : Nat} {a : aS} {fk fp tok st en : Int32} (h : aRC b n a fk fp tok st en) : (a.1 = true ∧ a.2.1 ≠ 0 ∧ fk = a.2.1 ∧ fp = a.2.2.1) ∨ ∃ s, a = aOk s ∧ fk = 0 ∧ fp = -1 ∧ s ≤ n ∧ tok = nI (ptok b n s).1 ∧ st = nI s ∧ en = nI (ptok b n s).2 := by
  unfold aRC at h
  by_cases h1 : a.1 = true
  · rw [if_pos h1] at h
    exact Or.inl ⟨h1, h⟩
  · rw [if_neg h1] at h
    exact Or.inr ⟨a.2.2.2, h⟩
theorem ptok_le (b : Nat → Int) {n s : Nat} (h : s ≤ n) : s ≤ (ptok b n s).2 ∧ (ptok b n s).2 ≤ n := by
  unfold ptok
  have h1 := prun_le (fun j => cL (b j)) (n - s) s
  have h2 := prun_le (fun j => cD (b j)) (n - s) s
  split
  · split
    · show s ≤ prun _ _ _ ∧ prun _ _ _ ≤ n
      omega
    · split
      · show s ≤ prun _ _ _ ∧ prun _ _ _ ≤ n
        omega
      · split
        · show s ≤ s + 1 ∧ s + 1 ≤ n
          omega
        · show s ≤ s + 1 ∧ s + 1 ≤ n
          omega
  · exact ⟨Nat.le_refl _, h⟩
theorem aNext_le (b : Nat → Int) {n s : Nat} (h : s ≤ n) : aNext b n s ≤ n := by
  have h1 := ptok_le b h
  have h2 := prun_le (fun j => cB (b j)) (n - (ptok b n s).2) (ptok b n s).2
  unfold aNext
  omega
theorem cx_expect {b : Nat → Int} {n : Nat} {a : aS} {fk fp tok st en : Int32} (c : Bool) {k p1 : Int32} (hk : k ≠ 0) (hp : a.1 = false → p1 = if c = true then 1 else 0) (h : aRC b n a fk fp tok st en) : aRC b n (aExp c k a) (fX6_expect fk fp st p1 k).1 (fX6_expect fk fp st p1 k).2 tok st en := by
  unfold aExp fX6_expect bfX6_expect_13 fX6_blame bfX6_blame_17 cal
  dsimp only
  rcases aRC_cases h with ⟨h1, h2, rfl, rfl⟩ | ⟨s, rfl, rfl, rfl, hs, rfl, rfl, rfl⟩
  · rw [if_pos h1]
    by_cases h3 : p1 = 0
    · rw [if_pos h3, if_neg h2]
      exact h
    · rw [if_neg h3]
      exact h
  · rw [if_neg (show ¬ (aOk s).1 = true from Bool.false_ne_true)]
    have hp := hp rfl
    cases c with
    | true =>
      have e1 : p1 = 1 := hp.trans (if_pos rfl)
      rw [e1, if_pos rfl, if_neg (show ¬ (1 : Int32) = 0 by decide)]
      exact h
    | false =>
      have e1 : p1 = 0 := hp.trans (if_neg Bool.false_ne_true)
      rw [e1, if_neg Bool.false_ne_true]
      simp only [if_true]
      exact aRC_bad hk
theorem cx_step {bt : Nat → Int32} {n : Nat} {a : aS} {fk fp tok st en : Int32} (hn : n ≤ 1600) (h : aRC (fun j => (bt j).toInt) n a fk fp tok st en) : aRC (fun j => (bt j).toInt) n (aStep (fun j => (bt j).toInt) n a) fk fp (fX6_step fk tok st en (nI n) bt).1 (fX6_step fk tok st en (nI n) bt).2.1 (fX6_step fk tok st en (nI n) bt).2.2 := by
  unfold aStep
  rcases aRC_cases h with ⟨h1, h2, rfl, rfl⟩ | ⟨s, rfl, rfl, rfl, hs, rfl, rfl, rfl⟩
  · rw [if_pos h1]
    unfold aRC
    rw [if_pos h1]
    exact ⟨h2, rfl, rfl⟩
  · rw [if_neg (show ¬ (aOk s).1 = true from Bool.false_ne_true), px_step hn (ptok_le _ hs).2]
    exact aRC_ok (aNext_le _ hs)
