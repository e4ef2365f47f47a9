/-! plain rows: numbers, signs, tokens -/
theorem cal_b {α β : Type} (f : α → β) (a : α) : cal f a = f a := rfl
theorem pz_add1 {a : Int32} (h : a.toInt < 2147483647) : (a + (1 : Int32)).toInt = a.toInt + 1 := by
  have h1 : (1 : Int32).toInt = 1 := by decide
  have h2 := (gi_any a).1
  have h3 := gi_addI (z := a + (1 : Int32)) rfl (by rw [h1]; omega) (by rw [h1]; omega)
  rw [h1] at h3
  exact h3
def prun (P : Nat → Bool) : Nat → Nat → Nat
  | 0, p => p
  | k + 1, p => if P p = true then prun P k (p + 1) else p
theorem prun_le (P : Nat → Bool) : ∀ k p : Nat, p ≤ prun P k p ∧ prun P k p ≤ p + k := by
  intro k
  induction k with
  | zero => intro p; exact ⟨Nat.le_refl _, Nat.le_refl _⟩
  | succ k ih =>
    intro p
    unfold prun
    by_cases h : P p = true
    · rw [if_pos h]
      have h1 := ih (p + 1)
      omega
    · rw [if_neg h]
      omega
theorem prun_eq {P Q : Nat → Bool} : ∀ k p : Nat, (∀ j, p ≤ j → j < p + k → P j = Q j) → prun P k p = prun Q k p := by
  intro k
  induction k with
  | zero => intro p _; rfl
  | succ k ih =>
    intro p h
    unfold prun
    rw [h p (Nat.le_refl _) (by omega), ih (p + 1) (fun j h1 h2 => h j (by omega) (by omega))]
def cL (x : Int) : Bool := decide (97 ≤ x ∧ x ≤ 122)
def cD (x : Int) : Bool := decide (48 ≤ x ∧ x ≤ 57)
def cB (x : Int) : Bool := decide (x = 32 ∨ x = 10)
theorem px_isLetter (o : Int32) : fX6_isLetter o = if cL o.toInt = true then 1 else 0 := by
  have k1 : (97 : Int32).toInt = 97 := by decide
  have k2 : (122 : Int32).toInt = 122 := by decide
  unfold fX6_isLetter bfX6_isLetter_16 bfX6_isLetter_17 cL
  simp only [Int32.lt_iff_toInt_lt, k1, k2, decide_eq_true_eq]
  by_cases h1 : o.toInt < 97
  · rw [if_pos h1, if_neg (by omega)]
  · rw [if_neg h1]
    by_cases h2 : 122 < o.toInt
    · rw [if_pos h2, if_neg (by omega)]
    · rw [if_neg h2, if_pos (by omega)]
theorem px_isDigit (o : Int32) : fX6_isDigit o = if cD o.toInt = true then 1 else 0 := by
  have k1 : (48 : Int32).toInt = 48 := by decide
  have k2 : (57 : Int32).toInt = 57 := by decide
  unfold fX6_isDigit bfX6_isDigit_16 bfX6_isDigit_17 cD
  simp only [Int32.lt_iff_toInt_lt, k1, k2, decide_eq_true_eq]
  by_cases h1 : o.toInt < 48
  · rw [if_pos h1, if_neg (by omega)]
  · rw [if_neg h1]
    by_cases h2 : 57 < o.toInt
    · rw [if_pos h2, if_neg (by omega)]
    · rw [if_neg h2, if_pos (by omega)]
theorem px_isBlank (o : Int32) : fX6_isBlank o = if cB o.toInt = true then 1 else 0 := by
  have k1 : (32 : Int32).toInt = 32 := by decide
  have k2 : (10 : Int32).toInt = 10 := by decide
  unfold fX6_isBlank bfX6_isBlank_12 bfX6_isBlank_17 cB
  simp only [← Int32.toInt_inj, k1, k2, decide_eq_true_eq]
  by_cases h1 : o.toInt = 32
  · rw [if_pos h1, if_pos (by omega)]
  · rw [if_neg h1]
    by_cases h2 : o.toInt = 10
    · rw [if_pos h2, if_pos (by omega)]
    · rw [if_neg h2, if_neg (by omega)]
theorem px_byteAt {n e : Nat} (bt : Nat → Int32) (hn : n < 2147483648) (h : e < n) : fX6_byteAt (nI n) bt (nI e) = bt e := by
  unfold fX6_byteAt bfX6_byteAt_28
  rw [if_neg (nI_pos (by omega)), if_neg (nI_ge h (by omega)), nI_clamp (by omega)]
theorem px_byteEnd {n : Nat} (bt : Nat → Int32) (hn : n < 2147483648) : fX6_byteAt (nI n) bt (nI n) = -1 := by
  unfold fX6_byteAt bfX6_byteAt_27 bfX6_byteAt_28
  rw [if_neg (nI_pos (by omega)), if_pos (nI_le (Nat.le_refl n) (by omega))]
theorem px_step3 {fk tok st en : Int32} {bt : Nat → Int32} {n : Nat} (hn : n ≤ 1600) : ∀ (k e z : Nat) (t s : Int32), e + k = n → k < z → (lfX6_step fk tok st en (nI n) bt z).2.2 t s (nI e) = (t, s, nI (prun (fun j => cD (bt j).toInt) k e)) := by
  intro k
  induction k with
  | zero =>
    intro e z t s he hz
    obtain ⟨z, rfl⟩ : ∃ y, z = y + 1 := ⟨z - 1, by omega⟩
    show dfX6_step_161 fk tok st en (nI n) bt (lfX6_step fk tok st en (nI n) bt z) t s (nI e) = _
    unfold dfX6_step_161 bfX6_step_227
    rw [if_pos (nI_le (by omega) (by omega))]
    rfl
  | succ k ih =>
    intro e z t s he hz
    obtain ⟨z, rfl⟩ : ∃ y, z = y + 1 := ⟨z - 1, by omega⟩
    show dfX6_step_161 fk tok st en (nI n) bt (lfX6_step fk tok st en (nI n) bt z) t s (nI e) = _
    unfold dfX6_step_161 bfX6_step_227 cal
    dsimp only
    rw [if_neg (nI_ge (by omega) (by omega)), px_byteAt bt (by omega) (by omega), px_isDigit]
    unfold prun
    by_cases h : cD (bt e).toInt = true
    · rw [if_pos h, if_neg (by decide), if_pos h, ← nI_succ]
      exact ih (e + 1) z t s (by omega) (by omega)
    · rw [if_neg h, if_pos rfl, if_neg h]
theorem px_step2 {fk tok st en : Int32} {bt : Nat → Int32} {n : Nat} (hn : n ≤ 1600) : ∀ (k e z : Nat) (t s : Int32), e + k = n → k < z → (lfX6_step fk tok st en (nI n) bt z).2.1 t s (nI e) = (t, s, nI (prun (fun j => cL (bt j).toInt) k e)) := by
  intro k
  induction k with
  | zero =>
    intro e z t s he hz
    obtain ⟨z, rfl⟩ : ∃ y, z = y + 1 := ⟨z - 1, by omega⟩
    show dfX6_step_108 fk tok st en (nI n) bt (lfX6_step fk tok st en (nI n) bt z) t s (nI e) = _
    unfold dfX6_step_108 bfX6_step_227
    rw [if_pos (nI_le (by omega) (by omega))]
    rfl
  | succ k ih =>
    intro e z t s he hz
    obtain ⟨z, rfl⟩ : ∃ y, z = y + 1 := ⟨z - 1, by omega⟩
    show dfX6_step_108 fk tok st en (nI n) bt (lfX6_step fk tok st en (nI n) bt z) t s (nI e) = _
    unfold dfX6_step_108 bfX6_step_227 cal
    dsimp only
    rw [if_neg (nI_ge (by omega) (by omega)), px_byteAt bt (by omega) (by omega), px_isLetter]
    unfold prun
    by_cases h : cL (bt e).toInt = true
    · rw [if_pos h, if_neg (by decide), if_pos h, ← nI_succ]
      exact ih (e + 1) z t s (by omega) (by omega)
    · rw [if_neg h, if_pos rfl, if_neg h]
/-- a token from s on: its kind (0 end, 1 none, 2 word, 3 number, 4 sign), its end -/
def ptok (b : Nat → Int) (n s : Nat) : Nat × Nat :=
  if s < n then
    if cL (b s) = true then (2, prun (fun j => cL (b j)) (n - s) s)
    else if cD (b s) = true then (3, prun (fun j => cD (b j)) (n - s) s)
    else if b s = 59 then (4, s + 1) else (1, s + 1)
  else (0, s)
theorem px_step57 {fk tok st en : Int32} {bt : Nat → Int32} {n : Nat} (hn : n ≤ 1600) (s z : Nat) (t e : Int32) (hs : s ≤ n) (hz : n < z) : bfX6_step_57 fk tok st en (nI n) bt (lfX6_step fk tok st en (nI n) bt z) t (nI s) e = (nI (ptok (fun j => (bt j).toInt) n s).1, nI s, nI (ptok (fun j => (bt j).toInt) n s).2) := by
  unfold bfX6_step_57 ptok cal
  dsimp only
  by_cases h : s < n
  · rw [if_pos (nI_lt h (by omega)), if_pos h, px_byteAt bt (by omega) h, px_isLetter]
    by_cases h1 : cL (bt s).toInt = true
    · rw [if_pos h1, if_neg (by decide), if_pos h1]
      exact px_step2 hn (n - s) s z _ _ (by omega) (by omega)
    · rw [if_neg h1, if_pos rfl, if_neg h1, px_isDigit]
      by_cases h2 : cD (bt s).toInt = true
      · rw [if_pos h2, if_neg (by decide), if_pos h2]
        exact px_step3 hn (n - s) s z _ _ (by omega) (by omega)
      · rw [if_neg h2, if_pos rfl, if_neg h2]
        unfold bfX6_step_214 bfX6_step_227
        have k1 : (59 : Int32).toInt = 59 := by decide
        by_cases h3 : (bt s).toInt = 59
        · rw [if_pos (Int32.toInt_inj.mp (by rw [k1]; exact h3)), if_pos h3]
          show ((4 : Int32), nI s, nI s + 1) = (nI 4, nI s, nI (s + 1))
          rw [nI_succ s]
          rfl
        · rw [if_neg (fun q => h3 (by rw [q]; exact k1)), if_neg h3]
          show ((1 : Int32), nI s, nI s + 1) = (nI 1, nI s, nI (s + 1))
          rw [nI_succ s]
          rfl
  · rw [if_neg (nI_nlt (by omega) (by omega)), if_neg h]
    unfold bfX6_step_227
    rfl
theorem px_step1 {fk tok st en : Int32} {bt : Nat → Int32} {n : Nat} (hn : n ≤ 1600) : ∀ (k s z : Nat), s + k = n → n + k + 1 < z → (lfX6_step fk tok st en (nI n) bt z).1 (nI s) = (nI (ptok (fun j => (bt j).toInt) n (prun (fun j => cB (bt j).toInt) k s)).1, nI (prun (fun j => cB (bt j).toInt) k s), nI (ptok (fun j => (bt j).toInt) n (prun (fun j => cB (bt j).toInt) k s)).2) := by
  intro k
  induction k with
  | zero =>
    intro s z he hz
    obtain ⟨z, rfl⟩ : ∃ y, z = y + 1 := ⟨z - 1, by omega⟩
    show dfX6_step_16 fk tok st en (nI n) bt (lfX6_step fk tok st en (nI n) bt z) (nI s) = _
    unfold dfX6_step_16
    rw [if_pos (nI_le (by omega) (by omega))]
    exact px_step57 hn s z _ _ (by omega) (by omega)
  | succ k ih =>
    intro s z he hz
    obtain ⟨z, rfl⟩ : ∃ y, z = y + 1 := ⟨z - 1, by omega⟩
    show dfX6_step_16 fk tok st en (nI n) bt (lfX6_step fk tok st en (nI n) bt z) (nI s) = _
    unfold dfX6_step_16 cal
    dsimp only
    rw [if_neg (nI_ge (by omega) (by omega)), px_byteAt bt (by omega) (by omega), px_isBlank]
    unfold prun
    by_cases h : cB (bt s).toInt = true
    · rw [if_pos h, if_neg (by decide), if_pos h, ← nI_succ]
      exact ih (s + 1) z (by omega) (by omega)
    · rw [if_neg h, if_pos rfl, if_neg h]
      exact px_step57 hn s z _ _ (by omega) (by omega)
/-- the class's step, where no fault was -/
theorem px_step {tok st : Int32} {bt : Nat → Int32} {n p : Nat} (hn : n ≤ 1600) (hp : p ≤ n) : fX6_step 0 tok st (nI p) (nI n) bt = (nI (ptok (fun j => (bt j).toInt) n (prun (fun j => cB (bt j).toInt) (n - p) p)).1, nI (prun (fun j => cB (bt j).toInt) (n - p) p), nI (ptok (fun j => (bt j).toInt) n (prun (fun j => cB (bt j).toInt) (n - p) p)).2) := by
  unfold fX6_step
  rw [if_pos rfl]
  exact px_step1 hn (n - p) p 1000000000 (by omega) (by omega)
