def bt (x : Int32) (i : Nat) : Bool := x.toBitVec.getLsbD i
theorem b_ext {x y : Int32} (h : ∀ i, i < 32 → bt x i = bt y i) : x = y := Int32.toBitVec_inj.mp (BitVec.eq_of_getLsbD_eq (fun i hi => h i hi))
theorem b_or (x y : Int32) (i : Nat) : bt (x ||| y) i = (bt x i || bt y i) := by unfold bt; rw [Int32.toBitVec_or, BitVec.getLsbD_or]
theorem b_and (x y : Int32) (i : Nat) : bt (x &&& y) i = (bt x i && bt y i) := by unfold bt; rw [Int32.toBitVec_and, BitVec.getLsbD_and]
theorem b_xor (x y : Int32) (i : Nat) : bt (x ^^^ y) i = (bt x i ^^ bt y i) := by unfold bt; rw [Int32.toBitVec_xor, BitVec.getLsbD_xor]
theorem b_big {x : Int32} {i : Nat} (h : 32 ≤ i) : bt x i = false := BitVec.getLsbD_of_ge _ _ h
theorem b_255 (i : Nat) : bt 255 i = decide (i < 8) := by
  rcases Nat.lt_or_ge i 32 with h | h
  · exact (by decide +kernel : ∀ i, i < 32 → bt 255 i = decide (i < 8)) i h
  · rw [b_big h, decide_eq_false (by omega)]
theorem b_65535 (i : Nat) : bt 65535 i = decide (i < 16) := by
  rcases Nat.lt_or_ge i 32 with h | h
  · exact (by decide +kernel : ∀ i, i < 32 → bt 65535 i = decide (i < 16)) i h
  · rw [b_big h, decide_eq_false (by omega)]
theorem b_m1 : ∀ i, i < 32 → bt (-1) i = true := by decide +kernel
theorem b_0 (i : Nat) : bt 0 i = false := BitVec.getLsbD_zero
theorem s_l : ∀ n, n < 32 → ((nI n &&& 31).toBitVec.smod 32).toNat = n := by decide +kernel
theorem s_u : ∀ n, n < 32 → (((nI n).toUInt32 &&& Int32.toUInt32 31).toBitVec % 32).toNat = n := by decide +kernel
theorem b_shl (n : Nat) (hn : n < 32) (x : Int32) {i : Nat} (hi : i < 32) : bt (x <<< (nI n &&& 31)) i = (decide (n ≤ i) && bt x (i - n)) := by
  unfold bt
  rw [Int32.toBitVec_shiftLeft]
  show (x.toBitVec <<< ((nI n &&& 31).toBitVec.smod 32).toNat).getLsbD i = _
  rw [s_l n hn, BitVec.getLsbD_shiftLeft]
  rcases Nat.lt_or_ge i n with h | h
  · simp [h, Nat.not_le.mpr h]
  · simp [hi, h, Nat.not_lt.mpr h]
theorem b_ushr (n : Nat) (hn : n < 32) (x : Int32) (i : Nat) : bt ((x.toUInt32 >>> ((nI n).toUInt32 &&& Int32.toUInt32 31)).toInt32) i = bt x (n + i) := by
  show (x.toUInt32 >>> ((nI n).toUInt32 &&& Int32.toUInt32 31)).toBitVec.getLsbD i = x.toUInt32.toBitVec.getLsbD (n + i)
  rw [UInt32.toBitVec_shiftRight]
  show (x.toUInt32.toBitVec >>> (((nI n).toUInt32 &&& Int32.toUInt32 31).toBitVec % 32).toNat).getLsbD i = _
  rw [s_u n hn, BitVec.getLsbD_ushiftRight]
theorem b_sshr (n : Nat) (hn : n < 32) (x : Int32) {i : Nat} (hi : i < 32) : bt (x >>> (nI n &&& 31)) i = if n + i < 32 then bt x (n + i) else bt x 31 := by
  unfold bt
  rw [Int32.toBitVec_shiftRight]
  show (x.toBitVec.sshiftRight ((nI n &&& 31).toBitVec.smod 32).toNat).getLsbD i = _
  rw [s_l n hn, BitVec.getLsbD_sshiftRight, BitVec.msb_eq_getLsbD_last]
  simp [hi]
theorem cal_b {α β : Type} (f : α → β) (a : α) : cal f a = f a := rfl
theorem pz_add1 {a : Int32} (h : a.toInt < 2147483647) : (a + (1 : Int32)).toInt = a.toInt + 1 := by
  have h1 : (1 : Int32).toInt = 1 := by decide
  have h2 := (gi_any a).1
  have h3 := gi_addI (z := a + (1 : Int32)) rfl (by rw [h1]; omega) (by rw [h1]; omega)
  rw [h1] at h3
  exact h3
def prun (P : Nat → Bool) : Nat → Nat → Nat
  | 0, p => p
  | k + 1, p => if P p = true then prun P k (p + 1) else p
theorem prun_le (P : Nat → Bool) : ∀ k p : Nat, p ≤ prun P k p ∧ prun P k p ≤ p + k := by
  intro k
  induction k with
  | zero => intro p; exact ⟨Nat.le_refl _, Nat.le_refl _⟩
  | succ k ih =>
    intro p
    unfold prun
    by_cases h : P p = true
    · rw [if_pos h]
      have h1 := ih (p + 1)
      omega
    · rw [if_neg h]
      omega
theorem prun_eq {P Q : Nat → Bool} : ∀ k p : Nat, (∀ j, p ≤ j → j < p + k → P j = Q j) → prun P k p = prun Q k p := by
  intro k
  induction k with
  | zero => intro p _; rfl
  | succ k ih =>
    intro p h
    unfold prun
    rw [h p (Nat.le_refl _) (by omega), ih (p + 1) (fun j h1 h2 => h j (by omega) (by omega))]
def cL (x : Int) : Bool := decide (97 ≤ x ∧ x ≤ 122)
def cD (x : Int) : Bool := decide (48 ≤ x ∧ x ≤ 57)
def cB (x : Int) : Bool := decide (x = 32 ∨ x = 10)
theorem px_isLetter (o : Int32) : fX6_isLetter o = if cL o.toInt = true then 1 else 0 := by
  have k1 : (97 : Int32).toInt = 97 := by decide
  have k2 : (122 : Int32).toInt = 122 := by decide
  unfold fX6_isLetter bfX6_isLetter_16 bfX6_isLetter_17 cL
  simp only [Int32.lt_iff_toInt_lt, k1, k2, decide_eq_true_eq]
  by_cases h1 : o.toInt < 97
  · rw [if_pos h1, if_neg (by omega)]
  · rw [if_neg h1]
    by_cases h2 : 122 < o.toInt
    · rw [if_pos h2, if_neg (by omega)]
    · rw [if_neg h2, if_pos (by omega)]
theorem px_isDigit (o : Int32) : fX6_isDigit o = if cD o.toInt = true then 1 else 0 := by
  have k1 : (48 : Int32).toInt = 48 := by decide
  have k2 : (57 : Int32).toInt = 57 := by decide
  unfold fX6_isDigit bfX6_isDigit_16 bfX6_isDigit_17 cD
  simp only [Int32.lt_iff_toInt_lt, k1, k2, decide_eq_true_eq]
  by_cases h1 : o.toInt < 48
  · rw [if_pos h1, if_neg (by omega)]
  · rw [if_neg h1]
    by_cases h2 : 57 < o.toInt
    · rw [if_pos h2, if_neg (by omega)]
    · rw [if_neg h2, if_pos (by omega)]
theorem px_isBlank (o : Int32) : fX6_isBlank o = if cB o.toInt = true then 1 else 0 := by
  have k1 : (32 : Int32).toInt = 32 := by decide
  have k2 : (10 : Int32).toInt = 10 := by decide
  unfold fX6_isBlank bfX6_isBlank_12 bfX6_isBlank_17 cB
  simp only [← Int32.toInt_inj, k1, k2, decide_eq_true_eq]
  by_cases h1 : o.toInt = 32
  · rw [if_pos h1, if_pos (by omega)]
  · rw [if_neg h1]
    by_cases h2 : o.toInt = 10
    · rw [if_pos h2, if_pos (by omega)]
    · rw [if_neg h2, if_neg (by omega)]
theorem px_byteAt {n e : Nat} (bt : Nat → Int32) (hn : n < 2147483648) (h : e < n) : fX6_byteAt (nI n) bt (nI e) = bt e := by
  unfold fX6_byteAt bfX6_byteAt_28
  rw [if_neg (nI_pos (by omega)), if_neg (nI_ge h (by omega)), nI_clamp (by omega)]
theorem px_byteEnd {n : Nat} (bt : Nat → Int32) (hn : n < 2147483648) : fX6_byteAt (nI n) bt (nI n) = -1 := by
  unfold fX6_byteAt bfX6_byteAt_27 bfX6_byteAt_28
  rw [if_neg (nI_pos (by omega)), if_pos (nI_le (Nat.le_refl n) (by omega))]
theorem px_step3 {fk tok st en : Int32} {bt : Nat → Int32} {n : Nat} (hn : n ≤ 1600) : ∀ (k e z : Nat) (t s : Int32), e + k = n → k < z → (lfX6_step fk tok st en (nI n) bt z).2.2 t s (nI e) = (t, s, nI (prun (fun j => cD (bt j).toInt) k e)) := by
  intro k
  induction k with
  | zero =>
    intro e z t s he hz
    obtain ⟨z, rfl⟩ : ∃ y, z = y + 1 := ⟨z - 1, by omega⟩
    show dfX6_step_161 fk tok st en (nI n) bt (lfX6_step fk tok st en (nI n) bt z) t s (nI e) = _
    unfold dfX6_step_161 bfX6_step_227
    rw [if_pos (nI_le (by omega) (by omega))]
    rfl
  | succ k ih =>
    intro e z t s he hz
    obtain ⟨z, rfl⟩ : ∃ y, z = y + 1 := ⟨z - 1, by omega⟩
    show dfX6_step_161 fk tok st en (nI n) bt (lfX6_step fk tok st en (nI n) bt z) t s (nI e) = _
    unfold dfX6_step_161 bfX6_step_227 cal
    dsimp only
    rw [if_neg (nI_ge (by omega) (by omega)), px_byteAt bt (by omega) (by omega), px_isDigit]
    unfold prun
    by_cases h : cD (bt e).toInt = true
    · rw [if_pos h, if_neg (by decide), if_pos h, ← nI_succ]
      exact ih (e + 1) z t s (by omega) (by omega)
    · rw [if_neg h, if_pos rfl, if_neg h]
theorem px_step2 {fk tok st en : Int32} {bt : Nat → Int32} {n : Nat} (hn : n ≤ 1600) : ∀ (k e z : Nat) (t s : Int32), e + k = n → k < z → (lfX6_step fk tok st en (nI n) bt z).2.1 t s (nI e) = (t, s, nI (prun (fun j => cL (bt j).toInt) k e)) := by
  intro k
  induction k with
  | zero =>
    intro e z t s he hz
    obtain ⟨z, rfl⟩ : ∃ y, z = y + 1 := ⟨z - 1, by omega⟩
    show dfX6_step_108 fk tok st en (nI n) bt (lfX6_step fk tok st en (nI n) bt z) t s (nI e) = _
    unfold dfX6_step_108 bfX6_step_227
    rw [if_pos (nI_le (by omega) (by omega))]
    rfl
  | succ k ih =>
    intro e z t s he hz
    obtain ⟨z, rfl⟩ : ∃ y, z = y + 1 := ⟨z - 1, by omega⟩
    show dfX6_step_108 fk tok st en (nI n) bt (lfX6_step fk tok st en (nI n) bt z) t s (nI e) = _
    unfold dfX6_step_108 bfX6_step_227 cal
    dsimp only
    rw [if_neg (nI_ge (by omega) (by omega)), px_byteAt bt (by omega) (by omega), px_isLetter]
    unfold prun
    by_cases h : cL (bt e).toInt = true
    · rw [if_pos h, if_neg (by decide), if_pos h, ← nI_succ]
      exact ih (e + 1) z t s (by omega) (by omega)
    · rw [if_neg h, if_pos rfl, if_neg h]
def ptok (b : Nat → Int) (n s : Nat) : Nat × Nat :=
  if s < n then
    if cL (b s) = true then (2, prun (fun j => cL (b j)) (n - s) s)
    else if cD (b s) = true then (3, prun (fun j => cD (b j)) (n - s) s)
    else if b s = 59 then (4, s + 1) else (1, s + 1)
  else (0, s)
theorem px_step57 {fk tok st en : Int32} {bt : Nat → Int32} {n : Nat} (hn : n ≤ 1600) (s z : Nat) (t e : Int32) (hs : s ≤ n) (hz : n < z) : bfX6_step_57 fk tok st en (nI n) bt (lfX6_step fk tok st en (nI n) bt z) t (nI s) e = (nI (ptok (fun j => (bt j).toInt) n s).1, nI s, nI (ptok (fun j => (bt j).toInt) n s).2) := by
  unfold bfX6_step_57 ptok cal
  dsimp only
  by_cases h : s < n
  · rw [if_pos (nI_lt h (by omega)), if_pos h, px_byteAt bt (by omega) h, px_isLetter]
    by_cases h1 : cL (bt s).toInt = true
    · rw [if_pos h1, if_neg (by decide), if_pos h1]
      exact px_step2 hn (n - s) s z _ _ (by omega) (by omega)
    · rw [if_neg h1, if_pos rfl, if_neg h1, px_isDigit]
      by_cases h2 : cD (bt s).toInt = true
      · rw [if_pos h2, if_neg (by decide), if_pos h2]
        exact px_step3 hn (n - s) s z _ _ (by omega) (by omega)
      · rw [if_neg h2, if_pos rfl, if_neg h2]
        unfold bfX6_step_214 bfX6_step_227
        have k1 : (59 : Int32).toInt = 59 := by decide
        by_cases h3 : (bt s).toInt = 59
        · rw [if_pos (Int32.toInt_inj.mp (by rw [k1]; exact h3)), if_pos h3]
          show ((4 : Int32), nI s, nI s + 1) = (nI 4, nI s, nI (s + 1))
          rw [nI_succ s]
          rfl
        · rw [if_neg (fun q => h3 (by rw [q]; exact k1)), if_neg h3]
          show ((1 : Int32), nI s, nI s + 1) = (nI 1, nI s, nI (s + 1))
          rw [nI_succ s]
          rfl
  · rw [if_neg (nI_nlt (by omega) (by omega)), if_neg h]
    unfold bfX6_step_227
    rfl
theorem px_step1 {fk tok st en : Int32} {bt : Nat → Int32} {n : Nat} (hn : n ≤ 1600) : ∀ (k s z : Nat), s + k = n → n + k + 1 < z → (lfX6_step fk tok st en (nI n) bt z).1 (nI s) = (nI (ptok (fun j => (bt j).toInt) n (prun (fun j => cB (bt j).toInt) k s)).1, nI (prun (fun j => cB (bt j).toInt) k s), nI (ptok (fun j => (bt j).toInt) n (prun (fun j => cB (bt j).toInt) k s)).2) := by
  intro k
  induction k with
  | zero =>
    intro s z he hz
    obtain ⟨z, rfl⟩ : ∃ y, z = y + 1 := ⟨z - 1, by omega⟩
    show dfX6_step_16 fk tok st en (nI n) bt (lfX6_step fk tok st en (nI n) bt z) (nI s) = _
    unfold dfX6_step_16
    rw [if_pos (nI_le (by omega) (by omega))]
    exact px_step57 hn s z _ _ (by omega) (by omega)
  | succ k ih =>
    intro s z he hz
    obtain ⟨z, rfl⟩ : ∃ y, z = y + 1 := ⟨z - 1, by omega⟩
    show dfX6_step_16 fk tok st en (nI n) bt (lfX6_step fk tok st en (nI n) bt z) (nI s) = _
    unfold dfX6_step_16 cal
    dsimp only
    rw [if_neg (nI_ge (by omega) (by omega)), px_byteAt bt (by omega) (by omega), px_isBlank]
    unfold prun
    by_cases h : cB (bt s).toInt = true
    · rw [if_pos h, if_neg (by decide), if_pos h, ← nI_succ]
      exact ih (s + 1) z (by omega) (by omega)
    · rw [if_neg h, if_pos rfl, if_neg h]
      exact px_step57 hn s z _ _ (by omega) (by omega)
theorem px_step {tok st : Int32} {bt : Nat → Int32} {n p : Nat} (hn : n ≤ 1600) (hp : p ≤ n) : fX6_step 0 tok st (nI p) (nI n) bt = (nI (ptok (fun j => (bt j).toInt) n (prun (fun j => cB (bt j).toInt) (n - p) p)).1, nI (prun (fun j => cB (bt j).toInt) (n - p) p), nI (ptok (fun j => (bt j).toInt) n (prun (fun j => cB (bt j).toInt) (n - p) p)).2) := by
  unfold fX6_step
  rw [if_pos rfl]
  exact px_step1 hn (n - p) p 1000000000 (by omega) (by omega)
theorem pr_in64 (a b c : Int64) : fX12_in a b c = if b.toInt ≤ a.toInt ∧ a.toInt ≤ c.toInt then 1 else 0 := by
  unfold fX12_in bfX12_in_17 bfX12_in_18
  by_cases h1 : lg_cmp a b < 0
  · have h2 := gz_llt h1
    rw [if_pos h1, if_neg (by omega)]
  · have h2 := gz_lge h1
    rw [if_neg h1]
    by_cases h3 : 0 < lg_cmp a c
    · have h4 := gz_lgt h3
      rw [if_pos h3, if_neg (by omega)]
    · have h4 := gz_lle h3
      rw [if_neg h3, if_pos (by omega)]
theorem pr_in (a b c : Int32) : fX12_in a.toInt64 b.toInt64 c.toInt64 = if b.toInt ≤ a.toInt ∧ a.toInt ≤ c.toInt then 1 else 0 := by
  rw [pr_in64, Int32.toInt_toInt64, Int32.toInt_toInt64, Int32.toInt_toInt64]
theorem pr_in1 {a b c : Int32} (h : b.toInt ≤ a.toInt ∧ a.toInt ≤ c.toInt) : fX12_in a.toInt64 b.toInt64 c.toInt64 = 1 := by rw [pr_in, if_pos h]
theorem pr_in0 {a b c : Int32} (h : ¬ (b.toInt ≤ a.toInt ∧ a.toInt ≤ c.toInt)) : fX12_in a.toInt64 b.toInt64 c.toInt64 = 0 := by rw [pr_in, if_neg h]
theorem pr_isAt1 {m : Nat → Int32} {tp : Nat → Int32} {n e : Nat} (h26 : m 26 = nI n) (h29 : m 29 = nI e) (hn : n < 2147483648) (he : e < 2147483648) (lo hi : Int32) (h : e < n ∧ lo.toInt ≤ (tp e).toInt ∧ (tp e).toInt ≤ hi.toInt) : fX12_isAt m tp lo hi = 1 := by
  unfold fX12_isAt bfX12_isAt_35 bfX12_isAt_36 cal
  dsimp only
  rw [h26, h29, nI_clamp (by omega), pr_in, if_neg (nI_ge h.1 (by omega)), if_pos h.2]
  rfl
theorem pr_isAt0 {m : Nat → Int32} {tp : Nat → Int32} {n e : Nat} (h26 : m 26 = nI n) (h29 : m 29 = nI e) (hn : n < 2147483648) (he : e < 2147483648) (lo hi : Int32) (h : ¬ (e < n ∧ lo.toInt ≤ (tp e).toInt ∧ (tp e).toInt ≤ hi.toInt)) : fX12_isAt m tp lo hi = 0 := by
  unfold fX12_isAt bfX12_isAt_35 bfX12_isAt_36 cal
  dsimp only
  rw [h26, h29, nI_clamp (by omega), pr_in]
  by_cases h1 : e < n
  · rw [if_neg (nI_ge h1 (by omega)), if_neg (fun q => h ⟨h1, q⟩)]
    rfl
  · rw [if_pos (nI_le (by omega) (by omega))]
def pvalR (t : Nat → Int) : Nat → Nat → Int → Int
  | 0, _, v => v
  | k + 1, e, v => if cD (t e) = true then pvalR t k (e + 1) (min 100000 (10 * v + t e - 48)) else v
theorem pvalR_0 (t : Nat → Int) (e : Nat) (v : Int) : pvalR t 0 e v = v := rfl
theorem pvalR_s (t : Nat → Int) (k e : Nat) (v : Int) : pvalR t (k + 1) e v = if cD (t e) = true then pvalR t k (e + 1) (min 100000 (10 * v + t e - 48)) else v := rfl
theorem prun_0 (P : Nat → Bool) (p : Nat) : prun P 0 p = p := rfl
theorem pr_next3 {mi tp : Nat → Int32} {n : Nat} (hn : n ≤ 1600) (h26 : mi 26 = nI n) : ∀ (k e z : Nat) (b t v : Int32), e + k = n → k < z → 0 ≤ v.toInt → v.toInt ≤ 100000 → ∃ w : Int32, (lfX12_next mi tp z).2.2 (nI e) b t v = (nI (prun (fun j => cD (tp j).toInt) k e), b, t, w) ∧ w.toInt = pvalR (fun j => (tp j).toInt) k e v.toInt := by
  intro k
  induction k with
  | zero =>
    intro e z b t v he hz h0 h1
    obtain ⟨z, rfl⟩ : ∃ y, z = y + 1 := ⟨z - 1, by omega⟩
    refine ⟨v, ?_, rfl⟩
    show dfX12_next_123 mi tp (lfX12_next mi tp z) (nI e) b t v = _
    unfold dfX12_next_123 bfX12_next_206 cal
    dsimp only
    rw [pr_isAt0 (m := upd (upd (upd (upd mi 29 (nI e)) 30 b) 31 t) 32 v) (tp := tp) (n := n) (e := e) h26 rfl (by omega) (by omega) 48 57 (fun q => absurd q.1 (by omega)), if_pos rfl]
    rfl
  | succ k ih =>
    intro e z b t v he hz h0 h1
    obtain ⟨z, rfl⟩ : ∃ y, z = y + 1 := ⟨z - 1, by omega⟩
    have k1 : (48 : Int32).toInt = 48 := by decide
    have k2 : (57 : Int32).toInt = 57 := by decide
    have k3 : (10 : Int32).toInt = 10 := by decide
    have k4 : (100000 : Int32).toInt = 100000 := by decide
    by_cases h : cD (tp e).toInt = true
    · have hd : 48 ≤ (tp e).toInt ∧ (tp e).toInt ≤ 57 := of_decide_eq_true h
      have m1 := gi_mulI (z := (10 : Int32) * v) rfl (by rw [k3]; omega) (by rw [k3]; omega)
      have m2 := gi_addI (z := (10 : Int32) * v + tp e) rfl (by rw [m1, k3]; omega) (by rw [m1, k3]; omega)
      have m3 := gi_subI (z := (10 : Int32) * v + tp e - (48 : Int32)) rfl (by rw [m2, m1, k3, k1]; omega) (by rw [m2, m1, k3, k1]; omega)
      have m4 := gi_minI (z := if ((10 : Int32) * v + tp e - (48 : Int32)) < (100000 : Int32) then ((10 : Int32) * v + tp e - (48 : Int32)) else (100000 : Int32)) (x := 100000) (y := (10 : Int32) * v + tp e - (48 : Int32)) rfl
      rw [m3, m2, m1, k1, k3, k4] at m4
      obtain ⟨w, h2, h3⟩ := ih (e + 1) z b t (if ((10 : Int32) * v + tp e - (48 : Int32)) < (100000 : Int32) then ((10 : Int32) * v + tp e - (48 : Int32)) else (100000 : Int32)) (by omega) (by omega) (by omega) (by omega)
      refine ⟨w, ?_, ?_⟩
      · show dfX12_next_123 mi tp (lfX12_next mi tp z) (nI e) b t v = _
        unfold dfX12_next_123 cal
        dsimp only
        rw [pr_isAt1 (m := upd (upd (upd (upd mi 29 (nI e)) 30 b) 31 t) 32 v) (tp := tp) (n := n) (e := e) h26 rfl (by omega) (by omega) 48 57 ⟨by omega, by rw [k1]; exact hd.1, by rw [k2]; exact hd.2⟩, if_neg (by decide), ← nI_succ, nI_clamp (show e < 2147483648 by omega)]
        unfold prun
        rw [if_pos h]
        exact h2
      · rw [h3, m4]
        exact (if_pos h).symm
    · refine ⟨v, ?_, ?_⟩
      · show dfX12_next_123 mi tp (lfX12_next mi tp z) (nI e) b t v = _
        unfold dfX12_next_123 bfX12_next_206 cal
        dsimp only
        rw [pr_isAt0 (m := upd (upd (upd (upd mi 29 (nI e)) 30 b) 31 t) 32 v) (tp := tp) (n := n) (e := e) h26 rfl (by omega) (by omega) 48 57 (fun q => h (decide_eq_true (by rw [k1, k2] at q; exact q.2))), if_pos rfl]
        unfold prun
        rw [if_neg h]
      · unfold pvalR
        rw [if_neg h]
theorem pr_next2 {mi tp : Nat → Int32} {n : Nat} (hn : n ≤ 1600) (h26 : mi 26 = nI n) : ∀ (k e z : Nat) (b t v : Int32), e + k = n → k < z → (lfX12_next mi tp z).2.1 (nI e) b t v = (nI (prun (fun j => cL (tp j).toInt) k e), b, t, v) := by
  intro k
  have k1 : (97 : Int32).toInt = 97 := by decide
  have k2 : (122 : Int32).toInt = 122 := by decide
  induction k with
  | zero =>
    intro e z b t v he hz
    obtain ⟨z, rfl⟩ : ∃ y, z = y + 1 := ⟨z - 1, by omega⟩
    show dfX12_next_83 mi tp (lfX12_next mi tp z) (nI e) b t v = _
    unfold dfX12_next_83 bfX12_next_206 cal
    dsimp only
    rw [pr_isAt0 (m := upd (upd (upd (upd mi 29 (nI e)) 30 b) 31 t) 32 v) (tp := tp) (n := n) (e := e) h26 rfl (by omega) (by omega) 97 122 (fun q => absurd q.1 (by omega)), if_pos rfl]
    rfl
  | succ k ih =>
    intro e z b t v he hz
    obtain ⟨z, rfl⟩ : ∃ y, z = y + 1 := ⟨z - 1, by omega⟩
    show dfX12_next_83 mi tp (lfX12_next mi tp z) (nI e) b t v = _
    unfold dfX12_next_83 bfX12_next_206 cal
    dsimp only
    unfold prun
    by_cases h : cL (tp e).toInt = true
    · rw [pr_isAt1 (m := upd (upd (upd (upd mi 29 (nI e)) 30 b) 31 t) 32 v) (tp := tp) (n := n) (e := e) h26 rfl (by omega) (by omega) 97 122 ⟨by omega, by rw [k1, k2]; exact of_decide_eq_true h⟩, if_neg (by decide), if_pos h, ← nI_succ]
      exact ih (e + 1) z b t v (by omega) (by omega)
    · rw [pr_isAt0 (m := upd (upd (upd (upd mi 29 (nI e)) 30 b) 31 t) 32 v) (tp := tp) (n := n) (e := e) h26 rfl (by omega) (by omega) 97 122 (fun q => h (decide_eq_true (by rw [k1, k2] at q; exact q.2))), if_pos rfl, if_neg h]
def pkind (k : Nat) : Nat := if k = 0 then 0 else if k = 1 then 4 else if k = 2 then 1 else if k = 3 then 2 else 3
def pvalT (b : Nat → Int) (n s : Nat) : Int := if s < n ∧ cL (b s) = false ∧ cD (b s) = true then pvalR b (n - s) s 0 else 0
theorem pr_next1 {mi tp : Nat → Int32} {n : Nat} (hn : n ≤ 1600) (h26 : mi 26 = nI n) : ∀ (k s z : Nat), s + k = n → n + k + 1 < z → ∃ w : Int32, (lfX12_next mi tp z).1 (nI s) = (nI (ptok (fun j => (tp j).toInt) n (prun (fun j => cB (tp j).toInt) k s)).2, nI (prun (fun j => cB (tp j).toInt) k s), nI (pkind (ptok (fun j => (tp j).toInt) n (prun (fun j => cB (tp j).toInt) k s)).1), w) ∧ w.toInt = pvalT (fun j => (tp j).toInt) n (prun (fun j => cB (tp j).toInt) k s) := by
  intro k
  have a1 : (97 : Int32).toInt = 97 := by decide
  have a2 : (122 : Int32).toInt = 122 := by decide
  have d1 : (48 : Int32).toInt = 48 := by decide
  have d2 : (57 : Int32).toInt = 57 := by decide
  have b1 : (32 : Int32).toInt = 32 := by decide
  have b2 : (10 : Int32).toInt = 10 := by decide
  have c1 : (59 : Int32).toInt = 59 := by decide
  have z0 : (0 : Int32).toInt = 0 := by decide
  induction k with
  | zero =>
    intro s z he hz
    obtain ⟨z, rfl⟩ : ∃ y, z = y + 1 := ⟨z - 1, by omega⟩
    have hs : s = n := by omega
    subst hs
    refine ⟨0, ?_, ?_⟩
    · show dfX12_next_0 mi tp (lfX12_next mi tp z) (nI s) = _
      unfold dfX12_next_0 bfX12_next_206 cal
      dsimp only
      rw [pr_isAt0 (m := upd mi 29 (nI s)) (tp := tp) (n := s) (e := s) h26 rfl (by omega) (by omega) 32 32 (fun q => absurd q.1 (by omega)), if_pos rfl, pr_isAt0 (m := upd mi 29 (nI s)) (tp := tp) (n := s) (e := s) h26 rfl (by omega) (by omega) 10 10 (fun q => absurd q.1 (by omega)), if_pos rfl, if_pos h26.symm]
      unfold prun ptok
      rw [if_neg (by omega)]
      rfl
    · unfold prun pvalT
      rw [if_neg (fun q => absurd q.1 (by omega))]
      exact z0
  | succ k ih =>
    intro s z he hz
    obtain ⟨z, rfl⟩ : ∃ y, z = y + 1 := ⟨z - 1, by omega⟩
    have hsn : s < n := by omega
    by_cases h : cB (tp s).toInt = true
    · obtain ⟨w, h2, h3⟩ := ih (s + 1) z (by omega) (by omega)
      have hb : (tp s).toInt = 32 ∨ (tp s).toInt = 10 := of_decide_eq_true h
      have hr : prun (fun j => cB (tp j).toInt) (k + 1) s = prun (fun j => cB (tp j).toInt) k (s + 1) := by
        show (if cB (tp s).toInt = true then _ else _) = _
        rw [if_pos h]
      rw [hr]
      refine ⟨w, ?_, h3⟩
      show dfX12_next_0 mi tp (lfX12_next mi tp z) (nI s) = _
      unfold dfX12_next_0 bfX12_next_22 cal
      dsimp only
      by_cases h4 : (tp s).toInt = 32
      · rw [pr_isAt1 (m := upd mi 29 (nI s)) (tp := tp) (n := n) (e := s) h26 rfl (by omega) (by omega) 32 32 ⟨hsn, by rw [b1]; omega, by rw [b1]; omega⟩, if_neg (by decide), ← nI_succ]
        exact h2
      · rw [pr_isAt0 (m := upd mi 29 (nI s)) (tp := tp) (n := n) (e := s) h26 rfl (by omega) (by omega) 32 32 (fun q => h4 (by rw [b1] at q; omega)), if_pos rfl, pr_isAt1 (m := upd mi 29 (nI s)) (tp := tp) (n := n) (e := s) h26 rfl (by omega) (by omega) 10 10 ⟨hsn, by rw [b2]; omega, by rw [b2]; omega⟩, if_neg (by decide), ← nI_succ]
        exact h2
    · have hb : ¬ ((tp s).toInt = 32 ∨ (tp s).toInt = 10) := fun q => h (decide_eq_true q)
      have hr : prun (fun j => cB (tp j).toInt) (k + 1) s = s := by
        show (if cB (tp s).toInt = true then _ else _) = _
        rw [if_neg h]
      rw [hr]
      have key : ∀ R : Int32 × Int32 × Int32 × Int32, (if (nI s) = (mi 26) then (nI s, nI s, (0 : Int32), (0 : Int32)) else R) = R := fun R => if_neg (fun q => absurd (congrArg Int32.toInt (q.trans h26)) (by rw [nI_toInt (by omega), nI_toInt (by omega)]; omega))
      by_cases h5 : cL (tp s).toInt = true
      · refine ⟨0, ?_, ?_⟩
        · show dfX12_next_0 mi tp (lfX12_next mi tp z) (nI s) = _
          unfold dfX12_next_0 bfX12_next_206 cal
          dsimp only
          rw [pr_isAt0 (m := upd mi 29 (nI s)) (tp := tp) (n := n) (e := s) h26 rfl (by omega) (by omega) 32 32 (fun q => hb (by rw [b1] at q; omega)), if_pos rfl, pr_isAt0 (m := upd mi 29 (nI s)) (tp := tp) (n := n) (e := s) h26 rfl (by omega) (by omega) 10 10 (fun q => hb (by rw [b2] at q; omega)), if_pos rfl, key, pr_isAt1 (m := upd (upd (upd mi 29 (nI s)) 30 (nI s)) 32 0) (tp := tp) (n := n) (e := s) h26 rfl (by omega) (by omega) 97 122 ⟨hsn, by rw [a1, a2]; exact of_decide_eq_true h5⟩, if_neg (by decide), pr_next2 hn h26 (n - s) s z _ _ _ (by omega) (by omega)]
          unfold ptok
          rw [if_pos hsn, if_pos h5]
          rfl
        · unfold pvalT
          rw [if_neg (fun q => absurd q.2.1 (by rw [h5]; decide))]
          exact z0
      · by_cases h6 : cD (tp s).toInt = true
        · obtain ⟨w, h7, h8⟩ := pr_next3 hn h26 (n - s) s z (nI s) 2 0 (by omega) (by omega) (by decide) (by decide)
          refine ⟨w, ?_, ?_⟩
          · show dfX12_next_0 mi tp (lfX12_next mi tp z) (nI s) = _
            unfold dfX12_next_0 bfX12_next_206 cal
            dsimp only
            rw [pr_isAt0 (m := upd mi 29 (nI s)) (tp := tp) (n := n) (e := s) h26 rfl (by omega) (by omega) 32 32 (fun q => hb (by rw [b1] at q; omega)), if_pos rfl, pr_isAt0 (m := upd mi 29 (nI s)) (tp := tp) (n := n) (e := s) h26 rfl (by omega) (by omega) 10 10 (fun q => hb (by rw [b2] at q; omega)), if_pos rfl, key, pr_isAt0 (m := upd (upd (upd mi 29 (nI s)) 30 (nI s)) 32 0) (tp := tp) (n := n) (e := s) h26 rfl (by omega) (by omega) 97 122 (fun q => h5 (decide_eq_true (by rw [a1, a2] at q; exact q.2))), if_pos rfl, pr_isAt1 (m := upd (upd (upd mi 29 (nI s)) 30 (nI s)) 32 0) (tp := tp) (n := n) (e := s) h26 rfl (by omega) (by omega) 48 57 ⟨hsn, by rw [d1, d2]; exact of_decide_eq_true h6⟩, if_neg (by decide), h7]
            unfold ptok
            rw [if_pos hsn, if_neg h5, if_pos h6]
            rfl
          · unfold pvalT
            rw [if_pos ⟨hsn, by simpa using h5, h6⟩, h8, z0]
        · refine ⟨0, ?_, ?_⟩
          · show dfX12_next_0 mi tp (lfX12_next mi tp z) (nI s) = _
            unfold dfX12_next_0 bfX12_next_193 bfX12_next_206 cal
            dsimp only
            rw [pr_isAt0 (m := upd mi 29 (nI s)) (tp := tp) (n := n) (e := s) h26 rfl (by omega) (by omega) 32 32 (fun q => hb (by rw [b1] at q; omega)), if_pos rfl, pr_isAt0 (m := upd mi 29 (nI s)) (tp := tp) (n := n) (e := s) h26 rfl (by omega) (by omega) 10 10 (fun q => hb (by rw [b2] at q; omega)), if_pos rfl, key, pr_isAt0 (m := upd (upd (upd mi 29 (nI s)) 30 (nI s)) 32 0) (tp := tp) (n := n) (e := s) h26 rfl (by omega) (by omega) 97 122 (fun q => h5 (decide_eq_true (by rw [a1, a2] at q; exact q.2))), if_pos rfl, pr_isAt0 (m := upd (upd (upd mi 29 (nI s)) 30 (nI s)) 32 0) (tp := tp) (n := n) (e := s) h26 rfl (by omega) (by omega) 48 57 (fun q => h6 (decide_eq_true (by rw [d1, d2] at q; exact q.2))), if_pos rfl]
            unfold ptok
            rw [if_pos hsn, if_neg h5, if_neg h6, ← nI_succ]
            by_cases h7 : (tp s).toInt = 59
            · rw [pr_isAt1 (m := upd (upd (upd mi 29 (nI s)) 30 (nI s)) 32 0) (tp := tp) (n := n) (e := s) h26 rfl (by omega) (by omega) 59 59 ⟨hsn, by rw [c1]; omega, by rw [c1]; omega⟩, if_neg (by decide), if_pos h7]
              rfl
            · rw [pr_isAt0 (m := upd (upd (upd mi 29 (nI s)) 30 (nI s)) 32 0) (tp := tp) (n := n) (e := s) h26 rfl (by omega) (by omega) 59 59 (fun q => h7 (by rw [c1] at q; omega)), if_pos rfl, if_neg h7]
              rfl
          · unfold pvalT
            rw [if_neg (fun q => h6 q.2.2)]
            exact z0
theorem pr_next {mi tp : Nat → Int32} {n p : Nat} (hn : n ≤ 1600) (hp : p ≤ n) (h26 : mi 26 = nI n) (h29 : mi 29 = nI p) : ∃ w : Int32, fX12_next mi tp = (nI (ptok (fun j => (tp j).toInt) n (prun (fun j => cB (tp j).toInt) (n - p) p)).2, nI (prun (fun j => cB (tp j).toInt) (n - p) p), nI (pkind (ptok (fun j => (tp j).toInt) n (prun (fun j => cB (tp j).toInt) (n - p) p)).1), w) ∧ w.toInt = pvalT (fun j => (tp j).toInt) n (prun (fun j => cB (tp j).toInt) (n - p) p) := by
  unfold fX12_next
  rw [h29]
  exact pr_next1 hn h26 (n - p) p 1000000000 (by omega) (by omega)
abbrev aS : Type := Bool × Int32 × Int32 × Nat
def aOk (s : Nat) : aS := (false, 0, -1, s)
def aBad (k p : Int32) : aS := (true, k, p, 0)
def aNext (b : Nat → Int) (n s : Nat) : Nat := prun (fun j => cB (b j)) (n - (ptok b n s).2) (ptok b n s).2
def aStep (b : Nat → Int) (n : Nat) (a : aS) : aS := if a.1 = true then a else aOk (aNext b n a.2.2.2)
def aExp (c : Bool) (k : Int32) (a : aS) : aS := if a.1 = true then a else if c = true then a else aBad k (nI a.2.2.2)
def aRC (b : Nat → Int) (n : Nat) (a : aS) (fk fp tok st en : Int32) : Prop :=
  if a.1 = true then a.2.1 ≠ 0 ∧ fk = a.2.1 ∧ fp = a.2.2.1
  else a = aOk a.2.2.2 ∧ fk = 0 ∧ fp = -1 ∧ a.2.2.2 ≤ n ∧ tok = nI (ptok b n a.2.2.2).1 ∧ st = nI a.2.2.2 ∧ en = nI (ptok b n a.2.2.2).2
theorem aRC_bad {b : Nat → Int} {n : Nat} {k p tok st en : Int32} (hk : k ≠ 0) : aRC b n (aBad k p) k p tok st en := by
  unfold aRC aBad
  rw [if_pos rfl]
  exact ⟨hk, rfl, rfl⟩
theorem aRC_ok {b : Nat → Int} {n s : Nat} (h : s ≤ n) : aRC b n (aOk s) 0 (-1) (nI (ptok b n s).1) (nI s) (nI (ptok b n s).2) := by
  unfold aRC aOk
  rw [if_neg Bool.false_ne_true]
  exact ⟨rfl, rfl, rfl, h, rfl, rfl, rfl⟩
theorem aRC_cases {b : Nat → Int} {n : Nat} {a : aS} {fk fp tok st en : Int32} (h : aRC b n a fk fp tok st en) : (a.1 = true ∧ a.2.1 ≠ 0 ∧ fk = a.2.1 ∧ fp = a.2.2.1) ∨ ∃ s, a = aOk s ∧ fk = 0 ∧ fp = -1 ∧ s ≤ n ∧ tok = nI (ptok b n s).1 ∧ st = nI s ∧ en = nI (ptok b n s).2 := by
  unfold aRC at h
  by_cases h1 : a.1 = true
  · rw [if_pos h1] at h
    exact Or.inl ⟨h1, h⟩
  · rw [if_neg h1] at h
    exact Or.inr ⟨a.2.2.2, h⟩
theorem ptok_le (b : Nat → Int) {n s : Nat} (h : s ≤ n) : s ≤ (ptok b n s).2 ∧ (ptok b n s).2 ≤ n := by
  unfold ptok
  have h1 := prun_le (fun j => cL (b j)) (n - s) s
  have h2 := prun_le (fun j => cD (b j)) (n - s) s
  split
  · split
    · show s ≤ prun _ _ _ ∧ prun _ _ _ ≤ n
      omega
    · split
      · show s ≤ prun _ _ _ ∧ prun _ _ _ ≤ n
        omega
      · split
        · show s ≤ s + 1 ∧ s + 1 ≤ n
          omega
        · show s ≤ s + 1 ∧ s + 1 ≤ n
          omega
  · exact ⟨Nat.le_refl _, h⟩
theorem aNext_le (b : Nat → Int) {n s : Nat} (h : s ≤ n) : aNext b n s ≤ n := by
  have h1 := ptok_le b h
  have h2 := prun_le (fun j => cB (b j)) (n - (ptok b n s).2) (ptok b n s).2
  unfold aNext
  omega
theorem cx_expect {b : Nat → Int} {n : Nat} {a : aS} {fk fp tok st en : Int32} (c : Bool) {k p1 : Int32} (hk : k ≠ 0) (hp : a.1 = false → p1 = if c = true then 1 else 0) (h : aRC b n a fk fp tok st en) : aRC b n (aExp c k a) (fX6_expect fk fp st p1 k).1 (fX6_expect fk fp st p1 k).2 tok st en := by
  unfold aExp fX6_expect bfX6_expect_13 fX6_blame bfX6_blame_17 cal
  dsimp only
  rcases aRC_cases h with ⟨h1, h2, rfl, rfl⟩ | ⟨s, rfl, rfl, rfl, hs, rfl, rfl, rfl⟩
  · rw [if_pos h1]
    by_cases h3 : p1 = 0
    · rw [if_pos h3, if_neg h2]
      exact h
    · rw [if_neg h3]
      exact h
  · rw [if_neg (show ¬ (aOk s).1 = true from Bool.false_ne_true)]
    have hp := hp rfl
    cases c with
    | true =>
      have e1 : p1 = 1 := hp.trans (if_pos rfl)
      rw [e1, if_pos rfl, if_neg (show ¬ (1 : Int32) = 0 by decide)]
      exact h
    | false =>
      have e1 : p1 = 0 := hp.trans (if_neg Bool.false_ne_true)
      rw [e1, if_neg Bool.false_ne_true]
      simp only [if_true]
      exact aRC_bad hk
theorem cx_step {bt : Nat → Int32} {n : Nat} {a : aS} {fk fp tok st en : Int32} (hn : n ≤ 1600) (h : aRC (fun j => (bt j).toInt) n a fk fp tok st en) : aRC (fun j => (bt j).toInt) n (aStep (fun j => (bt j).toInt) n a) fk fp (fX6_step fk tok st en (nI n) bt).1 (fX6_step fk tok st en (nI n) bt).2.1 (fX6_step fk tok st en (nI n) bt).2.2 := by
  unfold aStep
  rcases aRC_cases h with ⟨h1, h2, rfl, rfl⟩ | ⟨s, rfl, rfl, rfl, hs, rfl, rfl, rfl⟩
  · rw [if_pos h1]
    unfold aRC
    rw [if_pos h1]
    exact ⟨h2, rfl, rfl⟩
  · rw [if_neg (show ¬ (aOk s).1 = true from Bool.false_ne_true), px_step hn (ptok_le _ hs).2]
    exact aRC_ok (aNext_le _ hs)
theorem pz_nsub {a b : Nat} (h : b ≤ a) (ha : a < 2147483648) : nI a - nI b = nI (a - b) := by
  have h1 := nI_toInt (n := a) (by omega)
  have h2 := nI_toInt (n := b) (by omega)
  have h3 := nI_toInt (n := a - b) (by omega)
  have h4 := gi_subI (z := nI a - nI b) rfl (by omega) (by omega)
  exact Int32.toInt_inj.mp (by omega)
theorem pz_ninj {a b : Nat} (ha : a < 2147483648) (hb : b < 2147483648) (h : nI a = nI b) : a = b := by
  have h1 := nI_toInt (n := a) (by omega)
  have h2 := nI_toInt (n := b) (by omega)
  rw [h] at h1
  omega
theorem ptok_kind (b : Nat → Int) (n s : Nat) : (ptok b n s).1 ≤ 4 := by
  unfold ptok
  split
  · split
    · exact Nat.le_of_ble_eq_true rfl
    · split
      · exact Nat.le_of_ble_eq_true rfl
      · split
        · exact Nat.le_of_ble_eq_true rfl
        · exact Nat.le_of_ble_eq_true rfl
  · exact Nat.le_of_ble_eq_true rfl
def pwd (f : Nat → Int32) (L : List Int32) (s : Nat) : Nat → Nat → Int32
  | 0, _ => 1
  | k + 1, i => if f (s + i) = (L.getD i 0 &&& 255) then pwd f L s k (i + 1) else 0
def aIs (f : Nat → Int32) (n s : Nat) (L : List Int32) : Bool := decide ((ptok (fun j => (f j).toInt) n s).1 = 2 ∧ (ptok (fun j => (f j).toInt) n s).2 - s = L.length ∧ pwd f L s L.length 0 = 1)
theorem pwd_0 (f : Nat → Int32) (L : List Int32) (s i : Nat) : pwd f L s 0 i = 1 := rfl
theorem pwd_01 (f : Nat → Int32) (L : List Int32) (s : Nat) : ∀ k i : Nat, pwd f L s k i = 0 ∨ pwd f L s k i = 1 := by
  intro k
  induction k with
  | zero => intro i; exact Or.inr rfl
  | succ k ih =>
    intro i
    unfold pwd
    split
    · exact ih (i + 1)
    · exact Or.inl rfl
theorem px_wordL {tok en : Int32} {bt : Nat → Int32} {n s wi : Nat} (hn : n ≤ 1600) (hs : s + (stL wi).length ≤ n) : ∀ k i z : Nat, i + k = (stL wi).length → k < z → lfX6_isWord tok (nI s) en (nI n) bt wi z (nI i) = pwd bt (stL wi) s k i := by
  intro k
  induction k with
  | zero =>
    intro i z hi hz
    obtain ⟨z, rfl⟩ : ∃ y, z = y + 1 := ⟨z - 1, by omega⟩
    show dfX6_isWord_28 tok (nI s) en (nI n) bt wi (lfX6_isWord tok (nI s) en (nI n) bt wi z) (nI i) = _
    unfold dfX6_isWord_28
    rw [if_pos (nI_le (by omega) (by omega))]
    rfl
  | succ k ih =>
    intro i z hi hz
    obtain ⟨z, rfl⟩ : ∃ y, z = y + 1 := ⟨z - 1, by omega⟩
    show dfX6_isWord_28 tok (nI s) en (nI n) bt wi (lfX6_isWord tok (nI s) en (nI n) bt wi z) (nI i) = _
    unfold dfX6_isWord_28 cal
    dsimp only
    rw [if_neg (nI_ge (by omega) (by omega)), nI_add, px_byteAt bt (by omega) (by omega), nI_clamp (by omega), ← nI_succ, ih (i + 1) z (by omega) (by omega)]
    rfl
theorem px_isWord {bt : Nat → Int32} {n s wi : Nat} (hn : n ≤ 1600) (hs : s ≤ n) (hw : (stL wi).length ≤ 7) : fX6_isWord (nI (ptok (fun j => (bt j).toInt) n s).1) (nI s) (nI (ptok (fun j => (bt j).toInt) n s).2) (nI n) bt wi = if aIs bt n s (stL wi) = true then 1 else 0 := by
  have hk := ptok_kind (fun j => (bt j).toInt) n s
  have he := ptok_le (fun j => (bt j).toInt) hs
  unfold fX6_isWord bfX6_isWord_24 aIs
  simp only [decide_eq_true_eq]
  by_cases h1 : (ptok (fun j => (bt j).toInt) n s).1 = 2
  · rw [if_pos (by rw [h1]; rfl), pz_nsub he.1 (by omega)]
    by_cases h2 : (ptok (fun j => (bt j).toInt) n s).2 - s = (stL wi).length
    · rw [if_pos (by rw [h2]), show (0 : Int32) = nI 0 from rfl, px_wordL hn (by omega) (stL wi).length 0 1000000000 (by omega) (by omega)]
      rcases pwd_01 bt (stL wi) s (stL wi).length 0 with h3 | h3
      · rw [h3, if_neg (fun q => absurd q.2.2 (by decide))]
        rfl
      · rw [h3, if_pos ⟨h1, h2, rfl⟩]
    · rw [if_neg (fun q => h2 (pz_ninj (by omega) (by omega) q)), if_neg (fun q => h2 q.2.1)]
  · rw [if_neg (fun (q : nI (ptok (fun j => (bt j).toInt) n s).1 = (2 : Int32)) => h1 (pz_ninj (b := 2) (by omega) (by omega) q)), if_neg (fun q => h1 q.1)]
theorem pr_wordL0 {mi tp : Nat → Int32} {wi : Nat} (z : Nat) (hz : 0 < z) : lfX12_isWord mi tp wi z 0 0 = 0 := by
  obtain ⟨z, rfl⟩ : ∃ y, z = y + 1 := ⟨z - 1, by omega⟩
  show dfX12_isWord_32 mi tp wi (lfX12_isWord mi tp wi z) 0 0 = _
  unfold dfX12_isWord_32 bfX12_isWord_75
  split
  · rfl
  · rw [if_pos rfl]
theorem pr_wordL {mi tp : Nat → Int32} {n s wi : Nat} (hn : n ≤ 1600) (h30 : mi 30 = nI s) (hs : s + (stL wi).length ≤ n) : ∀ k i z : Nat, i + k = (stL wi).length → k + 1 < z → lfX12_isWord mi tp wi z 1 (nI i) = pwd tp (stL wi) s k i := by
  intro k
  induction k with
  | zero =>
    intro i z hi hz
    obtain ⟨z, rfl⟩ : ∃ y, z = y + 1 := ⟨z - 1, by omega⟩
    show dfX12_isWord_32 mi tp wi (lfX12_isWord mi tp wi z) 1 (nI i) = _
    unfold dfX12_isWord_32 bfX12_isWord_75
    rw [if_pos (nI_le (by omega) (by omega))]
    rfl
  | succ k ih =>
    intro i z hi hz
    obtain ⟨z, rfl⟩ : ∃ y, z = y + 1 := ⟨z - 1, by omega⟩
    show dfX12_isWord_32 mi tp wi (lfX12_isWord mi tp wi z) 1 (nI i) = _
    unfold dfX12_isWord_32 bfX12_isWord_68
    rw [if_neg (nI_ge (by omega) (by omega)), if_neg (by decide), h30, nI_add, nI_clamp (by omega), nI_clamp (by omega), ← nI_succ]
    unfold pwd
    split
    · exact ih (i + 1) z (by omega) (by omega)
    · obtain ⟨z, rfl⟩ : ∃ y, z = y + 1 := ⟨z - 1, by omega⟩
      show dfX12_isWord_32 mi tp wi (lfX12_isWord mi tp wi z) 0 (nI (i + 1)) = _
      unfold dfX12_isWord_32 bfX12_isWord_75
      split
      · rfl
      · rw [if_pos rfl]
theorem pkind_1 {k : Nat} (h : k ≤ 4) : pkind k = 1 ↔ k = 2 := by
  unfold pkind
  rcases (show k = 0 ∨ k = 1 ∨ k = 2 ∨ k = 3 ∨ k = 4 by omega) with rfl | rfl | rfl | rfl | rfl <;> decide
theorem pkind_le {k : Nat} (h : k ≤ 4) : pkind k ≤ 4 := by
  unfold pkind
  rcases (show k = 0 ∨ k = 1 ∨ k = 2 ∨ k = 3 ∨ k = 4 by omega) with rfl | rfl | rfl | rfl | rfl <;> decide
theorem pr_isWord {mi tp : Nat → Int32} {n s wi : Nat} (hn : n ≤ 1600) (hs : s ≤ n) (hw : (stL wi).length ≤ 7) (h29 : mi 29 = nI (ptok (fun j => (tp j).toInt) n s).2) (h30 : mi 30 = nI s) (h31 : mi 31 = nI (pkind (ptok (fun j => (tp j).toInt) n s).1)) : fX12_isWord mi tp wi = if aIs tp n s (stL wi) = true then 1 else 0 := by
  have hk := ptok_kind (fun j => (tp j).toInt) n s
  have hk2 := pkind_le hk
  have he := ptok_le (fun j => (tp j).toInt) hs
  unfold fX12_isWord bfX12_isWord_28 bfX12_isWord_29 aIs
  rw [h29, h31, pr_wordL0 1000000000 (by omega)]
  rw [show (mi 30) = nI s from h30, pz_nsub he.1 (by omega)]
  simp only [decide_eq_true_eq]
  by_cases h1 : (ptok (fun j => (tp j).toInt) n s).1 = 2
  · rw [if_pos (by rw [h1]; rfl)]
    by_cases h2 : (ptok (fun j => (tp j).toInt) n s).2 - s = (stL wi).length
    · rw [if_pos (by rw [h2]), show (0 : Int32) = nI 0 from rfl, pr_wordL hn h30 (by omega) (stL wi).length 0 1000000000 (by omega) (by omega)]
      rcases pwd_01 tp (stL wi) s (stL wi).length 0 with h3 | h3
      · rw [h3, if_neg (fun q => absurd q.2.2 (by decide))]
        rfl
      · rw [h3, if_pos ⟨h1, h2, rfl⟩]
    · rw [if_neg (fun q => h2 (pz_ninj (by omega) (by omega) q)), if_neg (fun q => h2 q.2.1)]
  · rw [if_neg (fun (q : nI (pkind (ptok (fun j => (tp j).toInt) n s).1) = (1 : Int32)) => h1 ((pkind_1 hk).mp (pz_ninj (b := 1) (by omega) (by omega) q))), if_neg (fun q => h1 q.1)]
theorem aExp_ok (c : Bool) (k : Int32) (s : Nat) : aExp c k (aOk s) = if c = true then aOk s else aBad k (nI s) := rfl
theorem cx_word {bt : Nat → Int32} {n wi : Nat} {a : aS} {fk fp tok st en : Int32} (hn : n ≤ 1600) (hw : (stL wi).length ≤ 7) (h : aRC (fun j => (bt j).toInt) n a fk fp tok st en) : aRC (fun j => (bt j).toInt) n (aStep (fun j => (bt j).toInt) n (aExp (aIs bt n a.2.2.2 (stL wi)) 1 a)) (fX6_passWord fk fp tok st en (nI n) bt wi).1 (fX6_passWord fk fp tok st en (nI n) bt wi).2.1 (fX6_passWord fk fp tok st en (nI n) bt wi).2.2.1 (fX6_passWord fk fp tok st en (nI n) bt wi).2.2.2.1 (fX6_passWord fk fp tok st en (nI n) bt wi).2.2.2.2 := by
  unfold fX6_passWord cal
  dsimp only
  refine cx_step hn (cx_expect _ (by decide) (fun h0 => ?_) h)
  rcases aRC_cases h with ⟨h1, h2, rfl, rfl⟩ | ⟨s, rfl, rfl, rfl, hs, rfl, rfl, rfl⟩
  · rw [h1] at h0
    exact absurd h0 (by decide)
  · exact px_isWord hn hs hw
theorem cx_sign {bt : Nat → Int32} {n : Nat} {a : aS} {fk fp tok st en : Int32} (hn : n ≤ 1600) (h : aRC (fun j => (bt j).toInt) n a fk fp tok st en) : aRC (fun j => (bt j).toInt) n (aStep (fun j => (bt j).toInt) n (aExp (decide ((ptok (fun j => (bt j).toInt) n a.2.2.2).1 = 4)) 1 a)) (fX6_passSign fk fp tok st en (nI n) bt).1 (fX6_passSign fk fp tok st en (nI n) bt).2.1 (fX6_passSign fk fp tok st en (nI n) bt).2.2.1 (fX6_passSign fk fp tok st en (nI n) bt).2.2.2.1 (fX6_passSign fk fp tok st en (nI n) bt).2.2.2.2 := by
  have e : fX6_passSign fk fp tok st en (nI n) bt = bfX6_passSign_14 fk fp tok st en (nI n) bt (if tok = 4 then 1 else 0) fk fp tok st en := by
    unfold fX6_passSign
    split
    · rfl
    · rfl
  rw [e]
  unfold bfX6_passSign_14 cal
  dsimp only
  refine cx_step hn (cx_expect _ (by decide) (fun h0 => ?_) h)
  rcases aRC_cases h with ⟨h1, h2, rfl, rfl⟩ | ⟨s, rfl, rfl, rfl, hs, rfl, rfl, rfl⟩
  · rw [h1] at h0
    exact absurd h0 (by decide)
  · have hk := ptok_kind (fun j => (bt j).toInt) n s
    show (if nI (ptok (fun j => (bt j).toInt) n s).1 = 4 then (1 : Int32) else 0) = if decide ((ptok (fun j => (bt j).toInt) n s).1 = 4) = true then 1 else 0
    by_cases h5 : (ptok (fun j => (bt j).toInt) n s).1 = 4
    · rw [if_pos (by rw [h5]; rfl), if_pos (decide_eq_true h5)]
    · rw [if_neg (fun (q : nI (ptok (fun j => (bt j).toInt) n s).1 = (4 : Int32)) => h5 (pz_ninj (b := 4) (by omega) (by omega) q)), if_neg (fun q => h5 (of_decide_eq_true q))]
theorem cx_head {bt : Nat → Int32} {n : Nat} {a : aS} {fk fp tok st en : Int32} (hn : n ≤ 1600) (c : Bool) {p1 : Int32} (hp : p1 = if c = true then 1 else 0) (h : aRC (fun j => (bt j).toInt) n a fk fp tok st en) : aRC (fun j => (bt j).toInt) n (aStep (fun j => (bt j).toInt) n (aExp c 3 a)) (fX6_passHead fk fp tok st en (nI n) bt p1).1 (fX6_passHead fk fp tok st en (nI n) bt p1).2.1 (fX6_passHead fk fp tok st en (nI n) bt p1).2.2.1 (fX6_passHead fk fp tok st en (nI n) bt p1).2.2.2.1 (fX6_passHead fk fp tok st en (nI n) bt p1).2.2.2.2 := by
  unfold fX6_passHead cal
  dsimp only
  exact cx_step hn (cx_expect c (by decide) (fun _ => hp) h)
def mu7 (mi : Nat → Int32) (o : Int32 × Int32 × Int32 × Int32 × Int32 × Int32 × Int32) : Nat → Int32 := upd (upd (upd (upd (upd (upd (upd mi 27 o.1) 28 o.2.1) 29 o.2.2.1) 30 o.2.2.2.1) 31 o.2.2.2.2.1) 32 o.2.2.2.2.2.1) 33 o.2.2.2.2.2.2
def own7 (mi : Nat → Int32) : Int32 × Int32 × Int32 × Int32 × Int32 × Int32 × Int32 := (mi 27, mi 28, mi 29, mi 30, mi 31, mi 32, mi 33)
theorem mu7_own (mi : Nat → Int32) : mu7 mi (own7 mi) = mi := by
  unfold mu7 own7
  simp only [upd_self]
def aRR (t : Nat → Int) (n : Nat) (a : aS) (mi : Nat → Int32) : Prop :=
  mi 26 = nI n ∧ if a.1 = true then a.2.1 ≠ 0 ∧ mi 33 = 1 ∧ mi 27 = a.2.1 ∧ mi 28 = a.2.2.1
  else a = aOk a.2.2.2 ∧ mi 33 = 0 ∧ mi 27 = 0 ∧ mi 28 = -1 ∧ a.2.2.2 ≤ n ∧ mi 29 = nI (ptok t n a.2.2.2).2 ∧ mi 30 = nI a.2.2.2 ∧ mi 31 = nI (pkind (ptok t n a.2.2.2).1) ∧ (mi 32).toInt = pvalT t n a.2.2.2
theorem aRR_cases {t : Nat → Int} {n : Nat} {a : aS} {mi : Nat → Int32} (h : aRR t n a mi) : (mi 26 = nI n ∧ a.1 = true ∧ a.2.1 ≠ 0 ∧ mi 33 = 1 ∧ mi 27 = a.2.1 ∧ mi 28 = a.2.2.1) ∨ ∃ s, mi 26 = nI n ∧ a = aOk s ∧ mi 33 = 0 ∧ mi 27 = 0 ∧ mi 28 = -1 ∧ s ≤ n ∧ mi 29 = nI (ptok t n s).2 ∧ mi 30 = nI s ∧ mi 31 = nI (pkind (ptok t n s).1) ∧ (mi 32).toInt = pvalT t n s := by
  obtain ⟨h26, h⟩ := h
  by_cases h1 : a.1 = true
  · rw [if_pos h1] at h
    exact Or.inl ⟨h26, h1, h⟩
  · rw [if_neg h1] at h
    exact Or.inr ⟨a.2.2.2, h26, h⟩
theorem aRR_bad {t : Nat → Int} {n : Nat} {a : aS} {mi : Nat → Int32} (h26 : mi 26 = nI n) (h1 : a.1 = true) (h2 : a.2.1 ≠ 0) (h33 : mi 33 = 1) (h27 : mi 27 = a.2.1) (h28 : mi 28 = a.2.2.1) : aRR t n a mi := by
  refine ⟨h26, ?_⟩
  rw [if_pos h1]
  exact ⟨h2, h33, h27, h28⟩
theorem aRR_ok {t : Nat → Int} {n s : Nat} {mi : Nat → Int32} (h26 : mi 26 = nI n) (h33 : mi 33 = 0) (h27 : mi 27 = 0) (h28 : mi 28 = -1) (hs : s ≤ n) (h29 : mi 29 = nI (ptok t n s).2) (h30 : mi 30 = nI s) (h31 : mi 31 = nI (pkind (ptok t n s).1)) (h32 : (mi 32).toInt = pvalT t n s) : aRR t n (aOk s) mi := by
  refine ⟨h26, ?_⟩
  rw [if_neg (show ¬ (aOk s).1 = true from Bool.false_ne_true)]
  exact ⟨rfl, h33, h27, h28, hs, h29, h30, h31, h32⟩
theorem rx_faultsAt (mi : Nat → Int32) (k p : Int32) : fX12_faultsAt mi k p = if mi 33 = 0 then (k, p, 1) else (mi 27, mi 28, mi 33) := by
  unfold fX12_faultsAt bfX12_faultsAt_22
  rfl
theorem rx_faults (mi : Nat → Int32) (k : Int32) : fX12_faults mi k = if mi 33 = 0 then (k, mi 30, 1) else (mi 27, mi 28, mi 33) := by
  unfold fX12_faults cal
  dsimp only
  rw [rx_faultsAt]
theorem rx_p9 {mi tp : Nat → Int32} {p1 w27 w28 w29 w30 w31 w32 w33 : Int32} (h : w33 = 0) : bfX12_passes_9 mi tp p1 w27 w28 w29 w30 w31 w32 w33 = (w27, w28, (fX12_next (mu7 mi (w27, w28, w29, w30, w31, w32, w33)) tp).1, (fX12_next (mu7 mi (w27, w28, w29, w30, w31, w32, w33)) tp).2.1, (fX12_next (mu7 mi (w27, w28, w29, w30, w31, w32, w33)) tp).2.2.1, (fX12_next (mu7 mi (w27, w28, w29, w30, w31, w32, w33)) tp).2.2.2, w33) := by
  unfold bfX12_passes_9 bfX12_passes_20 cal
  dsimp only
  rw [if_pos h]
  rfl
theorem rx_p9b {mi tp : Nat → Int32} {p1 w27 w28 w29 w30 w31 w32 w33 : Int32} (h : ¬ w33 = 0) : bfX12_passes_9 mi tp p1 w27 w28 w29 w30 w31 w32 w33 = (w27, w28, w29, w30, w31, w32, w33) := by
  unfold bfX12_passes_9 bfX12_passes_20
  rw [if_neg h]
theorem rx_passes {tp mi : Nat → Int32} {n : Nat} {a : aS} (hn : n ≤ 1600) (c : Bool) {p1 : Int32} (hp : a.1 = false → p1 = if c = true then 1 else 0) (h : aRR (fun j => (tp j).toInt) n a mi) : aRR (fun j => (tp j).toInt) n (aStep (fun j => (tp j).toInt) n (aExp c 1 a)) (mu7 mi (fX12_passes mi tp p1)) := by
  rcases aRR_cases h with ⟨h26, h1, h2, h33, h27, h28⟩ | ⟨s, h26, rfl, h33, h27, h28, hs, h29, h30, h31, h32⟩
  · have hb : ¬ mi 33 = 0 := by rw [h33]; decide
    have e : fX12_passes mi tp p1 = own7 mi := by
      unfold fX12_passes cal
      dsimp only
      rw [rx_faults, if_neg hb]
      split
      · exact rx_p9b hb
      · exact rx_p9b hb
    have ea : aStep (fun j => (tp j).toInt) n (aExp c 1 a) = a := by
      unfold aStep aExp
      rw [if_pos h1, if_pos h1]
    rw [e, mu7_own, ea]
    exact h
  · have hp := hp rfl
    cases c with
    | true =>
      have ea : aStep (fun j => (tp j).toInt) n (aExp true 1 (aOk s)) = aOk (aNext (fun j => (tp j).toInt) n s) := rfl
      rw [ea]
      have e : fX12_passes mi tp p1 = bfX12_passes_9 mi tp p1 (mi 27) (mi 28) (mi 29) (mi 30) (mi 31) (mi 32) (mi 33) := by
        unfold fX12_passes
        rw [if_neg (by rw [hp, if_pos rfl]; decide)]
      obtain ⟨w, e1, e2⟩ := pr_next (mi := mu7 mi (mi 27, mi 28, mi 29, mi 30, mi 31, mi 32, mi 33)) (tp := tp) hn (ptok_le (fun j => (tp j).toInt) hs).2 h26 h29
      rw [e, rx_p9 h33, e1]
      exact aRR_ok h26 h33 h27 h28 (aNext_le _ hs) rfl rfl rfl e2
    | false =>
      have ea : aStep (fun j => (tp j).toInt) n (aExp false 1 (aOk s)) = aBad 1 (nI s) := rfl
      have e : fX12_passes mi tp p1 = (1, mi 30, mi 29, mi 30, mi 31, mi 32, 1) := by
        unfold fX12_passes cal
        dsimp only
        rw [if_pos (by rw [hp, if_neg (by decide)]), rx_faults, if_pos h33]
        exact rx_p9b (show ¬ (1 : Int32) = 0 by decide)
      rw [ea, e]
      exact aRR_bad h26 rfl (show (1 : Int32) ≠ 0 by decide) rfl rfl h30
theorem rx_word {tp mi : Nat → Int32} {n wi : Nat} {a : aS} (hn : n ≤ 1600) (hw : (stL wi).length ≤ 7) (h : aRR (fun j => (tp j).toInt) n a mi) : aRR (fun j => (tp j).toInt) n (aStep (fun j => (tp j).toInt) n (aExp (aIs tp n a.2.2.2 (stL wi)) 1 a)) (mu7 mi (fX12_word mi tp wi)) := by
  have e21 : ∀ s0 : Int32, bfX12_word_21 mi tp wi s0 (mi 27) (mi 28) (mi 29) (mi 30) (mi 31) (mi 32) (mi 33) = fX12_passes mi tp s0 := by
    intro s0
    show fX12_passes (mu7 mi (own7 mi)) tp s0 = _
    rw [mu7_own]
  have e : fX12_word mi tp wi = fX12_passes mi tp (if mi 33 = 0 then (if fX12_isWord mi tp wi = 0 then 0 else 1) else 1) := by
    unfold fX12_word bfX12_word_16 cal
    dsimp only
    rw [e21, e21]
    split
    · split
      · rfl
      · rfl
    · rfl
  rw [e]
  refine rx_passes hn _ (fun h0 => ?_) h
  rcases aRR_cases h with ⟨h26, h1, h2, h33, h27, h28⟩ | ⟨s, h26, rfl, h33, h27, h28, hs, h29, h30, h31, h32⟩
  · rw [h1] at h0
    exact absurd h0 (by decide)
  · rw [if_pos h33, pr_isWord hn hs hw h29 h30 h31]
    show (if (if aIs tp n s (stL wi) = true then (1 : Int32) else 0) = 0 then (0 : Int32) else 1) = if aIs tp n s (stL wi) = true then 1 else 0
    split
    · rw [if_neg (by decide)]
    · rw [if_pos rfl]
def pvalC (b : Nat → Int) : Nat → Nat → Int → Int
  | 0, _, v => v
  | k + 1, e, v => pvalC b k (e + 1) (if cD (b e) = true then min 1000000 (10 * v + b e - 48) else v)
theorem pvalC_ge (b : Nat → Int) : ∀ (k e : Nat) (v : Int), 0 ≤ v → 0 ≤ pvalC b k e v := by
  intro k
  induction k with
  | zero => intro e v h; exact h
  | succ k ih =>
    intro e v h
    refine ih (e + 1) _ ?_
    split
    · rename_i h1
      have h2 : 48 ≤ b e ∧ b e ≤ 57 := of_decide_eq_true h1
      omega
    · exact h
theorem pvalC_le (b : Nat → Int) : ∀ (k e : Nat) (v : Int), v ≤ 1000000 → pvalC b k e v ≤ 1000000 := by
  intro k
  induction k with
  | zero => intro e v h; exact h
  | succ k ih =>
    intro e v h
    refine ih (e + 1) _ ?_
    split
    · omega
    · exact h
theorem px_valueL {bt : Nat → Int32} {n s e : Nat} (hn : n ≤ 1600) (he : e ≤ n) : ∀ (k p z : Nat) (v : Int32), p + k = e → k < z → 0 ≤ v.toInt → v.toInt ≤ 1000000 → (lfX6_valueHere (nI s) (nI e) (nI n) bt z v (nI p)).toInt = pvalC (fun j => (bt j).toInt) k p v.toInt := by
  intro k
  have k1 : (48 : Int32).toInt = 48 := by decide
  have k3 : (10 : Int32).toInt = 10 := by decide
  have k4 : (1000000 : Int32).toInt = 1000000 := by decide
  induction k with
  | zero =>
    intro p z v hp hz h0 h1
    obtain ⟨z, rfl⟩ : ∃ y, z = y + 1 := ⟨z - 1, by omega⟩
    show (dfX6_valueHere_7 (nI s) (nI e) (nI n) bt (lfX6_valueHere (nI s) (nI e) (nI n) bt z) v (nI p)).toInt = _
    unfold dfX6_valueHere_7
    rw [if_pos (nI_le (by omega) (by omega))]
    rfl
  | succ k ih =>
    intro p z v hp hz h0 h1
    obtain ⟨z, rfl⟩ : ∃ y, z = y + 1 := ⟨z - 1, by omega⟩
    show (dfX6_valueHere_7 (nI s) (nI e) (nI n) bt (lfX6_valueHere (nI s) (nI e) (nI n) bt z) v (nI p)).toInt = pvalC (fun j => (bt j).toInt) k (p + 1) (if cD (bt p).toInt = true then min 1000000 (10 * v.toInt + (bt p).toInt - 48) else v.toInt)
    unfold dfX6_valueHere_7 bfX6_valueHere_46 cal
    dsimp only
    rw [if_neg (nI_ge (by omega) (by omega)), px_byteAt bt (by omega) (by omega), px_isDigit, ← nI_succ]
    by_cases h : cD (bt p).toInt = true
    · have hd : 48 ≤ (bt p).toInt ∧ (bt p).toInt ≤ 57 := of_decide_eq_true h
      have m1 := gi_mulI (z := v * (10 : Int32)) rfl (by rw [k3]; omega) (by rw [k3]; omega)
      have m2 := gi_addI (z := v * (10 : Int32) + bt p) rfl (by rw [m1, k3]; omega) (by rw [m1, k3]; omega)
      have m3 := gi_subI (z := v * (10 : Int32) + bt p - (48 : Int32)) rfl (by rw [m2, m1, k3, k1]; omega) (by rw [m2, m1, k3, k1]; omega)
      have m4 := gi_minI (z := if (1000000 : Int32) < (v * (10 : Int32) + bt p - (48 : Int32)) then (1000000 : Int32) else (v * (10 : Int32) + bt p - (48 : Int32))) (x := v * (10 : Int32) + bt p - (48 : Int32)) (y := 1000000) rfl
      rw [m3, m2, m1, k1, k3, k4] at m4
      have m5 : min 1000000 (10 * v.toInt + (bt p).toInt - 48) = (if (1000000 : Int32) < (v * (10 : Int32) + bt p - (48 : Int32)) then (1000000 : Int32) else (v * (10 : Int32) + bt p - (48 : Int32))).toInt := by omega
      rw [if_pos h, if_neg (by decide), if_pos h, m5]
      exact ih (p + 1) z _ (by omega) (by omega) (by omega) (by omega)
    · rw [if_neg h, if_pos rfl, if_neg h]
      exact ih (p + 1) z v (by omega) (by omega) h0 h1
theorem px_value {bt : Nat → Int32} {n s e : Nat} (hn : n ≤ 1600) (hs : s ≤ e) (he : e ≤ n) : (fX6_valueHere (nI s) (nI e) (nI n) bt).toInt = pvalC (fun j => (bt j).toInt) (e - s) s 0 := by
  unfold fX6_valueHere
  rw [px_valueL hn he (e - s) s 1000000000 0 (by omega) (by omega) (by decide) (by decide)]
  rfl
theorem pval_rel {b : Nat → Int} : ∀ (k s : Nat) (u v : Int), 0 ≤ v → u = min 100000 v → pvalR b k s u = min 100000 (pvalC b (prun (fun j => cD (b j)) k s - s) s v) := by
  intro k
  induction k with
  | zero =>
    intro s u v h0 h
    have e : prun (fun j => cD (b j)) 0 s - s = 0 := Nat.sub_self s
    rw [e]
    exact h
  | succ k ih =>
    intro s u v h0 h
    by_cases h1 : cD (b s) = true
    · have e : prun (fun j => cD (b j)) (k + 1) s = prun (fun j => cD (b j)) k (s + 1) := if_pos h1
      have h2 := prun_le (fun j => cD (b j)) k (s + 1)
      have hd : 48 ≤ b s ∧ b s ≤ 57 := of_decide_eq_true h1
      have e2 : prun (fun j => cD (b j)) (k + 1) s - s = (prun (fun j => cD (b j)) k (s + 1) - (s + 1)) + 1 := by omega
      have e3 : pvalR b (k + 1) s u = pvalR b k (s + 1) (min 100000 (10 * u + b s - 48)) := if_pos h1
      rw [e3, e2, ih (s + 1) _ (min 1000000 (10 * v + b s - 48)) (by omega) (by omega)]
      show _ = min 100000 (pvalC b _ (s + 1) (if cD (b s) = true then min 1000000 (10 * v + b s - 48) else v))
      rw [if_pos h1]
    · have e : prun (fun j => cD (b j)) (k + 1) s = s := if_neg h1
      have e3 : pvalR b (k + 1) s u = u := if_neg h1
      rw [e3, e, Nat.sub_self]
      exact h
theorem pvalT_C {b : Nat → Int} {n s : Nat} (h : (ptok b n s).1 = 3) : pvalT b n s = min 100000 (pvalC b ((ptok b n s).2 - s) s 0) := by
  unfold ptok at h ⊢
  unfold pvalT
  by_cases h1 : s < n
  · rw [if_pos h1] at h ⊢
    by_cases h2 : cL (b s) = true
    · rw [if_pos h2] at h
      exact absurd h (by intro q; cases q)
    · rw [if_neg h2] at h ⊢
      by_cases h3 : cD (b s) = true
      · rw [if_pos h3] at h ⊢
        rw [if_pos ⟨h1, by simpa using h2, h3⟩]
        exact pval_rel (n - s) s 0 0 (Int.le_refl 0) rfl
      · rw [if_neg h3] at h
        split at h
        · exact absurd h (by intro q; cases q)
        · exact absurd h (by intro q; cases q)
  · rw [if_neg h1] at h
    exact absurd h (by intro q; cases q)
def aNum (b : Nat → Int) (n : Nat) (lo hi : Int) (a : aS) : aS := aStep b n (aExp (decide (lo ≤ pvalT b n a.2.2.2 ∧ pvalT b n a.2.2.2 ≤ hi)) 2 (aExp (decide ((ptok b n a.2.2.2).1 = 3)) 1 a))
theorem cx_number {bt : Nat → Int32} {n : Nat} {a : aS} {fk fp tok st en p1 p2 : Int32} (hn : n ≤ 1600) (lo hi : Int) (h1 : p1.toInt = lo) (h2 : p2.toInt = hi) (hb : hi ≤ 99999 ∨ (lo = 0 ∧ hi = 1000000)) (hl : 0 ≤ lo) (h : aRC (fun j => (bt j).toInt) n a fk fp tok st en) :
    aRC (fun j => (bt j).toInt) n (aNum (fun j => (bt j).toInt) n lo (min hi 100000) a) (fX6_passNumber fk fp tok st en (nI n) bt p1 p2).2.1 (fX6_passNumber fk fp tok st en (nI n) bt p1 p2).2.2.1 (fX6_passNumber fk fp tok st en (nI n) bt p1 p2).2.2.2.1 (fX6_passNumber fk fp tok st en (nI n) bt p1 p2).2.2.2.2.1 (fX6_passNumber fk fp tok st en (nI n) bt p1 p2).2.2.2.2.2 ∧ ((aNum (fun j => (bt j).toInt) n lo (min hi 100000) a).1 = false → min 100000 (fX6_passNumber fk fp tok st en (nI n) bt p1 p2).1.toInt = pvalT (fun j => (bt j).toInt) n a.2.2.2 ∧ lo ≤ (fX6_passNumber fk fp tok st en (nI n) bt p1 p2).1.toInt ∧ (fX6_passNumber fk fp tok st en (nI n) bt p1 p2).1.toInt ≤ hi) := by
  have e : fX6_passNumber fk fp tok st en (nI n) bt p1 p2 = bfX6_passNumber_14 fk fp tok st en (nI n) bt p1 p2 (if tok = 3 then 1 else 0) fk fp tok st en := by
    unfold fX6_passNumber
    split
    · rfl
    · rfl
  have e2 : ∀ s0 : Int32, bfX6_passNumber_14 fk fp tok st en (nI n) bt p1 p2 s0 fk fp tok st en = bfX6_passNumber_39 fk fp tok st en (nI n) bt p1 p2 (fX6_valueHere st en (nI n) bt) (if fX6_valueHere st en (nI n) bt < p1 then 0 else if p2 < fX6_valueHere st en (nI n) bt then 0 else 1) (fX6_expect fk fp st s0 1).1 (fX6_expect fk fp st s0 1).2 tok st en := by
    intro s0
    unfold bfX6_passNumber_14 bfX6_passNumber_38 cal
    dsimp only
    split
    · rfl
    · split
      · rfl
      · rfl
  rw [e, e2]
  generalize hv : fX6_valueHere st en (nI n) bt = v
  have hx : aRC (fun j => (bt j).toInt) n (aExp (decide ((ptok (fun j => (bt j).toInt) n a.2.2.2).1 = 3)) 1 a) (fX6_expect fk fp st (if tok = 3 then 1 else 0) 1).1 (fX6_expect fk fp st (if tok = 3 then 1 else 0) 1).2 tok st en := by
    refine cx_expect _ (by decide) (fun h0 => ?_) h
    rcases aRC_cases h with ⟨g1, g2, rfl, rfl⟩ | ⟨s, rfl, rfl, rfl, hs, rfl, rfl, rfl⟩
    · rw [g1] at h0
      exact absurd h0 (by intro q; cases q)
    · have hk := ptok_kind (fun j => (bt j).toInt) n s
      show (if nI (ptok (fun j => (bt j).toInt) n s).1 = 3 then (1 : Int32) else 0) = if decide ((ptok (fun j => (bt j).toInt) n s).1 = 3) = true then 1 else 0
      by_cases h5 : (ptok (fun j => (bt j).toInt) n s).1 = 3
      · rw [if_pos (by rw [h5]; rfl), if_pos (decide_eq_true h5)]
      · rw [if_neg (fun (q : nI (ptok (fun j => (bt j).toInt) n s).1 = (3 : Int32)) => h5 (pz_ninj (b := 3) (by omega) (by omega) q)), if_neg (fun q => h5 (of_decide_eq_true q))]
  have hval : (aExp (decide ((ptok (fun j => (bt j).toInt) n a.2.2.2).1 = 3)) 1 a).1 = false → min 100000 v.toInt = pvalT (fun j => (bt j).toInt) n a.2.2.2 ∧ 0 ≤ v.toInt ∧ v.toInt ≤ 1000000 ∧ aExp (decide ((ptok (fun j => (bt j).toInt) n a.2.2.2).1 = 3)) 1 a = a := by
    intro h0
    rcases aRC_cases h with ⟨g1, g2, rfl, rfl⟩ | ⟨s, rfl, rfl, rfl, hs, rfl, rfl, rfl⟩
    · unfold aExp at h0
      rw [if_pos g1, g1] at h0
      exact absurd h0 (by intro q; cases q)
    · rw [aExp_ok] at h0 ⊢
      by_cases h5 : decide ((ptok (fun j => (bt j).toInt) n (aOk s).2.2.2).1 = 3) = true
      · rw [if_pos h5]
        have h6 : (ptok (fun j => (bt j).toInt) n s).1 = 3 := of_decide_eq_true h5
        have hle := ptok_le (fun j => (bt j).toInt) hs
        have hvv := px_value (bt := bt) hn hle.1 hle.2
        rw [hv] at hvv
        refine ⟨?_, ?_, ?_, rfl⟩
        · rw [hvv]
          exact (pvalT_C h6).symm
        · rw [hvv]
          exact pvalC_ge _ _ _ _ (Int.le_refl 0)
        · have h8 := px_valueL (bt := bt) (s := s) hn hle.2 ((ptok (fun j => (bt j).toInt) n s).2 - s) s 1000000000 0 (by omega) (by omega) (by decide) (by decide)
          rw [hvv]
          exact pvalC_le _ _ _ _ (by omega)
      · rw [if_neg h5] at h0
        exact absurd h0 (by intro q; cases q)
  have hy := cx_expect (b := fun j => (bt j).toInt) (n := n) (decide (lo ≤ pvalT (fun j => (bt j).toInt) n a.2.2.2 ∧ pvalT (fun j => (bt j).toInt) n a.2.2.2 ≤ min hi 100000)) (k := 2) (p1 := if v < p1 then 0 else if p2 < v then 0 else 1) (by decide) (fun h0 => by
    obtain ⟨v1, v2, v3, -⟩ := hval h0
    by_cases g1 : v < p1
    · have g2 := Int32.lt_iff_toInt_lt.mp g1
      rw [if_pos g1, if_neg (fun q => by have q2 := of_decide_eq_true q; omega)]
    · have g2 : p1.toInt ≤ v.toInt := Int32.le_iff_toInt_le.mp (Int32.not_lt.mp g1)
      rw [if_neg g1]
      by_cases g3 : p2 < v
      · have g4 := Int32.lt_iff_toInt_lt.mp g3
        rw [if_pos g3, if_neg (fun q => by have q2 := of_decide_eq_true q; omega)]
      · have g4 : v.toInt ≤ p2.toInt := Int32.le_iff_toInt_le.mp (Int32.not_lt.mp g3)
        rw [if_neg g3, if_pos (decide_eq_true (by omega))]) hx
  refine ⟨?_, ?_⟩
  · unfold bfX6_passNumber_39 cal aNum
    dsimp only
    exact cx_step hn hy
  · intro h0
    have h3 : (aExp (decide ((ptok (fun j => (bt j).toInt) n a.2.2.2).1 = 3)) 1 a).1 = false := by
      cases hq : (aExp (decide ((ptok (fun j => (bt j).toInt) n a.2.2.2).1 = 3)) 1 a).1 with
      | false => rfl
      | true =>
        unfold aNum aStep at h0
        rw [show aExp (decide (lo ≤ pvalT (fun j => (bt j).toInt) n a.2.2.2 ∧ pvalT (fun j => (bt j).toInt) n a.2.2.2 ≤ min hi 100000)) 2 (aExp (decide ((ptok (fun j => (bt j).toInt) n a.2.2.2).1 = 3)) 1 a) = aExp (decide ((ptok (fun j => (bt j).toInt) n a.2.2.2).1 = 3)) 1 a from if_pos hq, if_pos hq, hq] at h0
        exact absurd h0 (by intro q; cases q)
    obtain ⟨v1, v2, v3, v4⟩ := hval h3
    have h6 : lo ≤ pvalT (fun j => (bt j).toInt) n a.2.2.2 ∧ pvalT (fun j => (bt j).toInt) n a.2.2.2 ≤ min hi 100000 := by
      by_cases g : lo ≤ pvalT (fun j => (bt j).toInt) n a.2.2.2 ∧ pvalT (fun j => (bt j).toInt) n a.2.2.2 ≤ min hi 100000
      · exact g
      · have g2 : (aExp (decide (lo ≤ pvalT (fun j => (bt j).toInt) n a.2.2.2 ∧ pvalT (fun j => (bt j).toInt) n a.2.2.2 ≤ min hi 100000)) 2 (aExp (decide ((ptok (fun j => (bt j).toInt) n a.2.2.2).1 = 3)) 1 a)).1 = true := by
          unfold aExp at h3 ⊢
          rw [if_neg (by rw [h3]; decide), if_neg (fun q => g (of_decide_eq_true q))]
          rfl
        unfold aNum aStep at h0
        rw [if_pos g2, g2] at h0
        exact absurd h0 (by intro q; cases q)
    show min 100000 v.toInt = _ ∧ lo ≤ v.toInt ∧ v.toInt ≤ hi
    exact ⟨v1, by omega, by omega⟩
theorem rx_b47 {mi tp : Nat → Int32} {p1 p2 v w27 w28 w29 w30 w31 w32 w33 : Int32} : bfX12_number_47 mi tp p1 p2 v w27 w28 w29 w30 w31 w32 w33 = (v, fX12_passes (mu7 mi (w27, w28, w29, w30, w31, w32, w33)) tp 1) := rfl
theorem mu7_mu7 (mi : Nat → Int32) (o p : Int32 × Int32 × Int32 × Int32 × Int32 × Int32 × Int32) : mu7 (mu7 mi o) p = mu7 mi p := by
  funext j
  unfold mu7 upd
  by_cases h1 : j = 33
  · simp only [h1, if_true]
  · by_cases h2 : j = 32
    · simp only [h2, if_true, if_false, reduceIte, Nat.reduceEqDiff]
    · by_cases h3 : j = 31
      · simp only [h3, if_true, if_false, reduceIte, Nat.reduceEqDiff]
      · by_cases h4 : j = 30
        · simp only [h4, if_true, if_false, reduceIte, Nat.reduceEqDiff]
        · by_cases h5 : j = 29
          · simp only [h5, if_true, if_false, reduceIte, Nat.reduceEqDiff]
          · by_cases h6 : j = 28
            · simp only [h6, if_true, if_false, reduceIte, Nat.reduceEqDiff]
            · by_cases h7 : j = 27
              · simp only [h7, if_true, if_false, reduceIte, Nat.reduceEqDiff]
              · simp only [h1, h2, h3, h4, h5, h6, h7, if_false, reduceIte]
theorem rx_pbad {mi tp : Nat → Int32} (p1 : Int32) (h : ¬ mi 33 = 0) : fX12_passes mi tp p1 = own7 mi := by
  unfold fX12_passes cal
  dsimp only
  rw [rx_faults, if_neg h]
  split
  · exact rx_p9b h
  · exact rx_p9b h
theorem rx_number {tp mi : Nat → Int32} {n : Nat} {a : aS} {p1 p2 : Int32} (hn : n ≤ 1600) (lo hi : Int) (h1 : p1.toInt = lo) (h2 : p2.toInt = hi) (h : aRR (fun j => (tp j).toInt) n a mi) : aRR (fun j => (tp j).toInt) n (aNum (fun j => (tp j).toInt) n lo hi a) (mu7 mi (fX12_number mi tp p1 p2).2) ∧ ((aNum (fun j => (tp j).toInt) n lo hi a).1 = false → (fX12_number mi tp p1 p2).1.toInt = pvalT (fun j => (tp j).toInt) n a.2.2.2) := by
  rcases aRR_cases h with ⟨h26, g1, g2, h33, h27, h28⟩ | ⟨s, h26, rfl, h33, h27, h28, hs, h29, h30, h31, h32⟩
  · have hb : ¬ mi 33 = 0 := by rw [h33]; decide
    have e : fX12_number mi tp p1 p2 = (p1, own7 mi) := by
      unfold fX12_number
      rw [if_neg hb]
      rfl
    have ea : aNum (fun j => (tp j).toInt) n lo hi a = a := by
      unfold aNum aStep aExp
      rw [if_pos g1, if_pos g1, if_pos g1]
    rw [ea, e]
    refine ⟨?_, fun q => absurd (q.symm.trans g1) (by decide)⟩
    show aRR _ n a (mu7 mi (own7 mi))
    rw [mu7_own]
    exact h
  · have hk := ptok_kind (fun j => (tp j).toInt) n s
    have hk2 := pkind_le hk
    by_cases g3 : (ptok (fun j => (tp j).toInt) n s).1 = 3
    · have g31 : mi 31 = 2 := by rw [h31, g3]; rfl
      have ea1 : aExp (decide ((ptok (fun j => (tp j).toInt) n (aOk s).2.2.2).1 = 3)) 1 (aOk s) = aOk s := if_pos (decide_eq_true g3)
      by_cases g4 : lo ≤ pvalT (fun j => (tp j).toInt) n s ∧ pvalT (fun j => (tp j).toInt) n s ≤ hi
      · have ea : aNum (fun j => (tp j).toInt) n lo hi (aOk s) = aStep (fun j => (tp j).toInt) n (aExp true 1 (aOk s)) := by
          unfold aNum
          rw [ea1, show aExp (decide (lo ≤ pvalT (fun j => (tp j).toInt) n (aOk s).2.2.2 ∧ pvalT (fun j => (tp j).toInt) n (aOk s).2.2.2 ≤ hi)) 2 (aOk s) = aOk s from if_pos (decide_eq_true g4)]
          rfl
        have e : fX12_number mi tp p1 p2 = (mi 32, fX12_passes mi tp 1) := by
          unfold fX12_number cal
          dsimp only
          rw [if_pos h33, if_pos g31, pr_in1 (a := mi 32) (b := p1) (c := p2) (by rw [h1, h2, h32]; exact g4), if_neg (show ¬ (1 : Int32) = 0 by decide), rx_b47]
          show (mi 32, fX12_passes (mu7 mi (own7 mi)) tp 1) = _
          rw [mu7_own]
        rw [ea, e]
        exact ⟨rx_passes hn true (fun _ => rfl) h, fun _ => h32⟩
      · have ea : aNum (fun j => (tp j).toInt) n lo hi (aOk s) = aBad 2 (nI s) := by
          unfold aNum
          rw [ea1, show aExp (decide (lo ≤ pvalT (fun j => (tp j).toInt) n (aOk s).2.2.2 ∧ pvalT (fun j => (tp j).toInt) n (aOk s).2.2.2 ≤ hi)) 2 (aOk s) = aBad 2 (nI s) from if_neg (fun q => g4 (of_decide_eq_true q))]
          rfl
        have e : fX12_number mi tp p1 p2 = (mi 32, 2, mi 30, mi 29, mi 30, mi 31, mi 32, 1) := by
          unfold fX12_number cal
          dsimp only
          rw [if_pos h33, if_pos g31, pr_in0 (a := mi 32) (b := p1) (c := p2) (by rw [h1, h2, h32]; exact g4), if_pos rfl, rx_faults, if_pos h33, rx_b47, rx_pbad 1 (show ¬ (1 : Int32) = 0 by decide)]
          rfl
        rw [ea, e]
        exact ⟨aRR_bad h26 rfl (show (2 : Int32) ≠ 0 by decide) rfl rfl h30, fun q => absurd q (by intro q; cases q)⟩
    · have g31 : ¬ mi 31 = 2 := fun q => by
        rw [h31] at q
        have q2 := pz_ninj (b := 2) (by omega) (by omega) q
        unfold pkind at q2
        rcases (show (ptok (fun j => (tp j).toInt) n s).1 = 0 ∨ (ptok (fun j => (tp j).toInt) n s).1 = 1 ∨ (ptok (fun j => (tp j).toInt) n s).1 = 2 ∨ (ptok (fun j => (tp j).toInt) n s).1 = 4 by omega) with q3 | q3 | q3 | q3 <;> rw [q3] at q2 <;> exact absurd q2 (by decide)
      have ea : aNum (fun j => (tp j).toInt) n lo hi (aOk s) = aBad 1 (nI s) := by
        unfold aNum
        rw [show aExp (decide ((ptok (fun j => (tp j).toInt) n (aOk s).2.2.2).1 = 3)) 1 (aOk s) = aBad 1 (nI s) from if_neg (fun q => g3 (of_decide_eq_true q))]
        rfl
      have e : fX12_number mi tp p1 p2 = (mi 32, 1, mi 30, mi 29, mi 30, mi 31, mi 32, 1) := by
        unfold fX12_number cal
        dsimp only
        rw [if_pos h33, if_neg g31, rx_faults, if_pos h33, rx_b47, rx_pbad 1 (show ¬ (1 : Int32) = 0 by decide)]
        rfl
      rw [ea, e]
      exact ⟨aRR_bad h26 rfl (show (1 : Int32) ≠ 0 by decide) rfl rfl h30, fun q => absurd q (by intro q; cases q)⟩
def TR (n : Nat) (bt tp : Nat → Int32) : Prop := ∀ j, j < n → -128 ≤ (bt j).toInt ∧ (bt j).toInt ≤ 127 ∧ ((0 ≤ (bt j).toInt ∧ (tp j).toInt = (bt j).toInt) ∨ ((bt j).toInt < 0 ∧ (tp j).toInt = (bt j).toInt + 256))
theorem tr_L {n : Nat} {bt tp : Nat → Int32} (h : TR n bt tp) {j : Nat} (hj : j < n) : cL (tp j).toInt = cL (bt j).toInt := by
  have h1 := h j hj
  unfold cL
  exact decide_eq_decide.mpr (by omega)
theorem tr_D {n : Nat} {bt tp : Nat → Int32} (h : TR n bt tp) {j : Nat} (hj : j < n) : cD (tp j).toInt = cD (bt j).toInt := by
  have h1 := h j hj
  unfold cD
  exact decide_eq_decide.mpr (by omega)
theorem tr_B {n : Nat} {bt tp : Nat → Int32} (h : TR n bt tp) {j : Nat} (hj : j < n) : cB (tp j).toInt = cB (bt j).toInt := by
  have h1 := h j hj
  unfold cB
  exact decide_eq_decide.mpr (by omega)
theorem tr_tok {n s : Nat} {bt tp : Nat → Int32} (h : TR n bt tp) : ptok (fun j => (tp j).toInt) n s = ptok (fun j => (bt j).toInt) n s := by
  unfold ptok
  by_cases h1 : s < n
  · rw [if_pos h1, if_pos h1, tr_L h h1, tr_D h h1, prun_eq (Q := fun j => cL (bt j).toInt) (n - s) s (fun j g1 g2 => tr_L h (by omega)), prun_eq (Q := fun j => cD (bt j).toInt) (n - s) s (fun j g1 g2 => tr_D h (by omega))]
    have h2 := h s h1
    by_cases h3 : (bt s).toInt = 59
    · rw [if_pos (show (tp s).toInt = 59 by omega), if_pos h3]
    · rw [if_neg (show ¬ (tp s).toInt = 59 by omega), if_neg h3]
  · rw [if_neg h1, if_neg h1]
theorem tr_valR {n : Nat} {bt tp : Nat → Int32} (h : TR n bt tp) : ∀ (k s : Nat) (v : Int), s + k ≤ n → pvalR (fun j => (tp j).toInt) k s v = pvalR (fun j => (bt j).toInt) k s v := by
  intro k
  induction k with
  | zero => intro s v _; rw [pvalR_0, pvalR_0]
  | succ k ih =>
    intro s v hs
    have h2 := h s (by omega)
    rw [pvalR_s, pvalR_s]
    rw [tr_D h (by omega)]
    by_cases h1 : cD (bt s).toInt = true
    · have hd : 48 ≤ (bt s).toInt ∧ (bt s).toInt ≤ 57 := of_decide_eq_true h1
      rw [if_pos h1, if_pos h1, ih (s + 1) _ (by omega), show (tp s).toInt = (bt s).toInt by omega]
    · rw [if_neg h1, if_neg h1]
theorem tr_val {n s : Nat} {bt tp : Nat → Int32} (h : TR n bt tp) : pvalT (fun j => (tp j).toInt) n s = pvalT (fun j => (bt j).toInt) n s := by
  unfold pvalT
  by_cases h1 : s < n
  · rw [tr_L h h1, tr_D h h1]
    split
    · exact tr_valR h (n - s) s 0 (by omega)
    · rfl
  · rw [if_neg (fun q => h1 q.1), if_neg (fun q => h1 q.1)]
theorem prun_all (P : Nat → Bool) : ∀ k p j : Nat, p ≤ j → j < prun P k p → P j = true := by
  intro k
  induction k with
  | zero =>
    intro p j h1 h2
    exact absurd h2 (by unfold prun; omega)
  | succ k ih =>
    intro p j h1 h2
    unfold prun at h2
    by_cases h3 : P p = true
    · rw [if_pos h3] at h2
      by_cases h4 : j = p
      · rw [h4]
        exact h3
      · exact ih (p + 1) j (by omega) h2
    · rw [if_neg h3] at h2
      omega
theorem ptok_2 {b : Nat → Int} {n s : Nat} (h : (ptok b n s).1 = 2) : s < n ∧ (ptok b n s).2 = prun (fun j => cL (b j)) (n - s) s := by
  unfold ptok at h ⊢
  by_cases h1 : s < n
  · rw [if_pos h1] at h ⊢
    by_cases h2 : cL (b s) = true
    · rw [if_pos h2]
      exact ⟨h1, rfl⟩
    · rw [if_neg h2] at h
      split at h
      · exact absurd h (by intro q; cases q)
      · split at h
        · exact absurd h (by intro q; cases q)
        · exact absurd h (by intro q; cases q)
  · rw [if_neg h1] at h
    exact absurd h (by intro q; cases q)
theorem tr_pwd {n s : Nat} {bt tp : Nat → Int32} (h : TR n bt tp) (L : List Int32) (hL : ∀ j, s ≤ j → j < s + L.length → j < n ∧ cL (bt j).toInt = true) : ∀ k i : Nat, i + k = L.length → pwd tp L s k i = pwd bt L s k i := by
  intro k
  induction k with
  | zero => intro i _; rw [pwd_0, pwd_0]
  | succ k ih =>
    intro i hi
    obtain ⟨g1, g2⟩ := hL (s + i) (by omega) (by omega)
    have g3 := h (s + i) g1
    have hd : 97 ≤ (bt (s + i)).toInt ∧ (bt (s + i)).toInt ≤ 122 := of_decide_eq_true g2
    have e : tp (s + i) = bt (s + i) := Int32.toInt_inj.mp (by omega)
    unfold pwd
    rw [e, ih (i + 1) (by omega)]
theorem tr_is {n s : Nat} {bt tp : Nat → Int32} (h : TR n bt tp) (L : List Int32) : aIs tp n s L = aIs bt n s L := by
  unfold aIs
  rw [tr_tok h]
  by_cases h1 : (ptok (fun j => (bt j).toInt) n s).1 = 2
  · by_cases h2 : (ptok (fun j => (bt j).toInt) n s).2 - s = L.length
    · obtain ⟨g1, g2⟩ := ptok_2 h1
      have g3 := ptok_le (fun j => (bt j).toInt) (n := n) (s := s) (by omega)
      rw [tr_pwd h L (fun j q1 q2 => ⟨by omega, prun_all (fun j => cL (bt j).toInt) (n - s) s j q1 (by omega)⟩) L.length 0 (by omega)]
    · rw [decide_eq_false (fun q => h2 q.2.1), decide_eq_false (fun q => h2 q.2.1)]
  · rw [decide_eq_false (fun q => h1 q.1), decide_eq_false (fun q => h1 q.1)]
theorem tr_next {n s : Nat} {bt tp : Nat → Int32} (h : TR n bt tp) : aNext (fun j => (tp j).toInt) n s = aNext (fun j => (bt j).toInt) n s := by
  unfold aNext
  rw [tr_tok h]
  by_cases h1 : (ptok (fun j => (bt j).toInt) n s).2 ≤ n
  · exact prun_eq _ _ (fun j g1 g2 => tr_B h (by omega))
  · rw [show n - (ptok (fun j => (bt j).toInt) n s).2 = 0 by omega, prun_0, prun_0]
theorem tr_step {n : Nat} {bt tp : Nat → Int32} (h : TR n bt tp) (a : aS) : aStep (fun j => (tp j).toInt) n a = aStep (fun j => (bt j).toInt) n a := by
  unfold aStep
  rw [tr_next h]
theorem tr_num {n : Nat} {bt tp : Nat → Int32} (h : TR n bt tp) (lo hi : Int) (a : aS) : aNum (fun j => (tp j).toInt) n lo hi a = aNum (fun j => (bt j).toInt) n lo hi a := by
  unfold aNum
  rw [tr_step h, tr_val h, tr_tok h]
theorem tr_RR {n : Nat} {bt tp : Nat → Int32} (h : TR n bt tp) (a : aS) (mi : Nat → Int32) : aRR (fun j => (tp j).toInt) n a mi ↔ aRR (fun j => (bt j).toInt) n a mi := by
  unfold aRR
  rw [tr_tok h, tr_val h]
def aWrd (f : Nat → Int32) (n : Nat) (L : List Int32) (a : aS) : aS := aStep (fun j => (f j).toInt) n (aExp (aIs f n a.2.2.2 L) 1 a)
theorem aStep_ok {b : Nat → Int} {n : Nat} {a : aS} (h : (aStep b n a).1 = false) : a.1 = false := by
  cases hq : a.1 with
  | false => rfl
  | true =>
    unfold aStep at h
    rw [if_pos hq, hq] at h
    exact h
theorem aExp_okb {c : Bool} {k : Int32} {a : aS} (h : (aExp c k a).1 = false) : a.1 = false ∧ c = true := by
  unfold aExp at h
  cases hq : a.1 with
  | true =>
    rw [if_pos hq, hq] at h
    exact absurd h (by intro q; cases q)
  | false =>
    refine ⟨rfl, ?_⟩
    rw [if_neg (by rw [hq]; decide)] at h
    cases c with
    | true => rfl
    | false =>
      rw [if_neg (by decide)] at h
      exact absurd h (by intro q; cases q)
theorem aNum_okb {b : Nat → Int} {n : Nat} {lo hi : Int} {a : aS} (h : (aNum b n lo hi a).1 = false) : a.1 = false := (aExp_okb (aExp_okb (aStep_ok h)).1).1
theorem aWrd_okb {f : Nat → Int32} {n : Nat} {L : List Int32} {a : aS} (h : (aWrd f n L a).1 = false) : a.1 = false := (aExp_okb (aStep_ok h)).1
abbrev C5 : Type := Int32 × Int32 × Int32 × Int32 × Int32
abbrev M7 : Type := Int32 × Int32 × Int32 × Int32 × Int32 × Int32 × Int32
theorem cal_out {α β : Type} {f : α → β} {a : α} {X : β} (h : X = cal f a) : ∃ o, o = a ∧ X = f o := ⟨a, rfl, h⟩
def aR7 (t : Nat → Int) (n : Nat) (a : aS) (p : M7) : Prop :=
  if a.1 = true then a.2.1 ≠ 0 ∧ p.2.2.2.2.2.2 = 1 ∧ p.1 = a.2.1 ∧ p.2.1 = a.2.2.1
  else a = aOk a.2.2.2 ∧ p.2.2.2.2.2.2 = 0 ∧ p.1 = 0 ∧ p.2.1 = -1 ∧ a.2.2.2 ≤ n ∧ p.2.2.1 = nI (ptok t n a.2.2.2).2 ∧ p.2.2.2.1 = nI a.2.2.2 ∧ p.2.2.2.2.1 = nI (pkind (ptok t n a.2.2.2).1) ∧ (p.2.2.2.2.2.1).toInt = pvalT t n a.2.2.2
def aB (L n : Nat) (a : aS) : Prop := a.1 = false → L ≤ a.2.2.2 ∧ a.2.2.2 ≤ n
theorem aB_exp {L n : Nat} {c : Bool} {k : Int32} {a : aS} (h : aB L n a) : aB L n (aExp c k a) := by
  intro q
  obtain ⟨q1, q2⟩ := aExp_okb q
  have e : aExp c k a = a := by
    unfold aExp
    rw [if_neg (by rw [q1]; decide), if_pos q2]
  rw [e]
  exact h q1
theorem aNext_ge (b : Nat → Int) {n s : Nat} (h : s ≤ n) : s ≤ aNext b n s := by
  have h1 := ptok_le b h
  have h2 := prun_le (fun j => cB (b j)) (n - (ptok b n s).2) (ptok b n s).2
  unfold aNext
  omega
theorem aB_step {L n : Nat} {b : Nat → Int} {a : aS} (h : aB L n a) : aB L n (aStep b n a) := by
  intro q
  have q1 := aStep_ok q
  obtain ⟨h1, h2⟩ := h q1
  have e : aStep b n a = aOk (aNext b n a.2.2.2) := if_neg (by rw [q1]; decide)
  rw [e]
  exact ⟨Nat.le_trans h1 (aNext_ge b h2), aNext_le b h2⟩
theorem aB_bad {L n : Nat} {a : aS} (h : a.1 = true) : aB L n a := fun q => absurd (q.symm.trans h) (by decide)
def aQ (L n : Nat) (bt : Nat → Int32) (a : aS) (c : C5) (p : M7) : Prop := aRC (fun j => (bt j).toInt) n a c.1 c.2.1 c.2.2.1 c.2.2.2.1 c.2.2.2.2 ∧ aR7 (fun j => (bt j).toInt) n a p ∧ aB L n a
theorem aQ_RR {L n : Nat} {bt tp mi : Nat → Int32} {a : aS} {c : C5} {p : M7} (h : aQ L n bt a c p) (hT : TR n bt tp) (h26 : mi 26 = nI n) (hp : own7 mi = p) : aRR (fun j => (tp j).toInt) n a mi := by
  subst hp
  exact (tr_RR hT a mi).mpr ⟨h26, h.2.1⟩
theorem aQ_of {L n : Nat} {bt tp mi : Nat → Int32} {a : aS} {c : C5} {u : M7} (hT : TR n bt tp) (h1 : aRC (fun j => (bt j).toInt) n a c.1 c.2.1 c.2.2.1 c.2.2.2.1 c.2.2.2.2) (h2 : aRR (fun j => (tp j).toInt) n a (mu7 mi u)) (hb : aB L n a) : aQ L n bt a c u := ⟨h1, ((tr_RR hT a _).mp h2).2, hb⟩
theorem aQ_fk {L n : Nat} {bt : Nat → Int32} {a : aS} {c : C5} {p : M7} (h : aQ L n bt a c p) : c.1 = 0 ↔ a.1 = false := by
  rcases aRC_cases h.1 with ⟨h1, h2, h3, -⟩ | ⟨s, h1, h3, -⟩
  · constructor
    · intro q
      exact absurd (h3.symm.trans q) h2
    · intro q
      exact absurd (q.symm.trans h1) (by decide)
  · constructor
    · intro _
      rw [h1]
      rfl
    · intro _
      exact h3
theorem aQ_33 {L n : Nat} {bt : Nat → Int32} {a : aS} {c : C5} {p : M7} (h : aQ L n bt a c p) : p.2.2.2.2.2.2 = 0 ↔ a.1 = false := by
  have h2 := h.2.1
  unfold aR7 at h2
  by_cases h1 : a.1 = true
  · rw [if_pos h1] at h2
    rw [h2.2.1, h1]
    exact ⟨fun q => absurd q (by decide), fun q => absurd q (by decide)⟩
  · rw [if_neg h1] at h2
    exact ⟨fun _ => by simpa using h1, fun _ => h2.2.1⟩
theorem q_word {L n wi : Nat} {bt tp mi : Nat → Int32} {a : aS} {c : C5} {p : M7} (hn : n ≤ 1600) (hT : TR n bt tp) (h : aQ L n bt a c p) {o : C5} (ho : o = fX6_passWord c.1 c.2.1 c.2.2.1 c.2.2.2.1 c.2.2.2.2 (nI n) bt wi) {u : M7} (hu : u = fX12_word mi tp wi) (hw : (stL wi).length ≤ 7) (h26 : mi 26 = nI n) (hp : own7 mi = p) : ∃ a', aQ L n bt a' o u ∧ (a'.1 = false → a.1 = false) := by
  subst ho hu
  have h1 := rx_word (wi := wi) hn hw (aQ_RR h hT h26 hp)
  rw [tr_is hT, tr_step hT] at h1
  exact ⟨aWrd bt n (stL wi) a, aQ_of hT (cx_word hn hw h.1) h1 (aB_step (aB_exp h.2.2)), aWrd_okb⟩
theorem q_num {L n : Nat} {bt tp mi : Nat → Int32} {a : aS} {c : C5} {p : M7} {p1 p2 : Int32} (hn : n ≤ 1600) (hT : TR n bt tp) (h : aQ L n bt a c p) {o : Int32 × C5} (ho : o = fX6_passNumber c.1 c.2.1 c.2.2.1 c.2.2.2.1 c.2.2.2.2 (nI n) bt p1 p2) {u : Int32 × M7} (hu : u = fX12_number mi tp p1 p2) (lo hi : Int) (h1 : p1.toInt = lo) (h2 : p2.toInt = hi) (hl : 0 ≤ lo) (hh : hi ≤ 99999) (h26 : mi 26 = nI n) (hp : own7 mi = p) : ∃ a', aQ L n bt a' o.2 u.2 ∧ (a'.1 = false → a.1 = false ∧ o.1 = u.1 ∧ lo ≤ u.1.toInt ∧ u.1.toInt ≤ hi) := by
  subst ho hu
  have hc := cx_number (bt := bt) (p1 := p1) (p2 := p2) hn lo hi h1 h2 (Or.inl hh) hl h.1
  rw [show min hi 100000 = hi by omega] at hc
  have hr := rx_number (p1 := p1) (p2 := p2) hn lo hi h1 h2 (aQ_RR h hT h26 hp)
  rw [tr_num hT, tr_val hT] at hr
  refine ⟨_, aQ_of hT hc.1 hr.1 (aB_step (aB_exp (aB_exp h.2.2))), fun q => ⟨aNum_okb q, ?_⟩⟩
  have h3 := hc.2 q
  have h4 := hr.2 q
  exact ⟨Int32.toInt_inj.mp (by omega), by omega, by omega⟩
theorem q_nb {L n wi : Nat} {bt tp mi : Nat → Int32} {a : aS} {c : C5} {p : M7} {p1 p2 : Int32} (hn : n ≤ 1600) (hT : TR n bt tp) (h : aQ L n bt a c p) {o1 : C5} (ho1 : o1 = fX6_passWord c.1 c.2.1 c.2.2.1 c.2.2.2.1 c.2.2.2.2 (nI n) bt wi) {o : Int32 × C5} (ho : o = fX6_passNumber o1.1 o1.2.1 o1.2.2.1 o1.2.2.2.1 o1.2.2.2.2 (nI n) bt p1 p2) {u : Int32 × M7} (hu : u = fX12_numberBehind mi tp p1 p2 wi) (hw : (stL wi).length ≤ 7) (lo hi : Int) (h1 : p1.toInt = lo) (h2 : p2.toInt = hi) (hl : 0 ≤ lo) (hh : hi ≤ 99999) (h26 : mi 26 = nI n) (hp : own7 mi = p) : ∃ a', aQ L n bt a' o.2 u.2 ∧ (a'.1 = false → a.1 = false ∧ o.1 = u.1 ∧ lo ≤ u.1.toInt ∧ u.1.toInt ≤ hi) := by
  unfold fX12_numberBehind at hu
  obtain ⟨u1, f1, hu⟩ := cal_out hu
  obtain ⟨u2, f2, hu⟩ := cal_out hu
  obtain ⟨a1, k1, q1⟩ := q_word hn hT h ho1 f1 hw h26 hp
  obtain ⟨a2, k2, q2⟩ := q_num hn hT k1 ho f2 lo hi h1 h2 hl hh h26 rfl
  have e : u = u2 := hu
  rw [e]
  exact ⟨a2, k2, fun q => ⟨q1 (q2 q).1, (q2 q).2⟩⟩
theorem ln_head {L n : Nat} {bt tp mi : Nat → Int32} {a : aS} {c : C5} {p : M7} (hn : n ≤ 1600) (hT : TR n bt tp) (h : aQ L n bt a c p) {em ef el : Int32} {X : Int32 × Int32 × Int32 × Int32 × Int32 × Int32 × Int32 × Int32} (hX : X = fX6_readFirst c.1 c.2.1 c.2.2.1 c.2.2.2.1 c.2.2.2.2 (nI n) bt em ef el) {Y : Int32 × Int32 × Int32 × M7} (hY : Y = fX12_readsHead mi tp) (h26 : mi 26 = nI n) (hp : own7 mi = p) : ∃ a', aQ L n bt a' (X.1, X.2.1, X.2.2.1, X.2.2.2.1, X.2.2.2.2.1) Y.2.2.2 ∧ (a'.1 = false → a.1 = false ∧ X.2.2.2.2.2 = (Y.1, Y.2.1, Y.2.2.1) ∧ 2 ≤ Y.1.toInt ∧ Y.1.toInt ≤ 24 ∧ 1 ≤ Y.2.1.toInt ∧ Y.2.1.toInt ≤ 5 ∧ 1 ≤ Y.2.2.1.toInt ∧ Y.2.2.1.toInt ≤ 5) := by
  unfold fX6_readFirst at hX
  obtain ⟨o1, e1, hX⟩ := cal_out hX
  obtain ⟨o2, e2, hX⟩ := cal_out hX
  obtain ⟨o3, e3, hX⟩ := cal_out hX
  obtain ⟨o4, e4, hX⟩ := cal_out hX
  obtain ⟨o5, e5, hX⟩ := cal_out hX
  obtain ⟨o6, e6, hX⟩ := cal_out hX
  obtain ⟨o7, e7, hX⟩ := cal_out hX
  unfold bfX6_readFirst_77 at hX
  unfold fX12_readsHead at hY
  obtain ⟨u1, f1, hY⟩ := cal_out hY
  obtain ⟨u2, f2, hY⟩ := cal_out hY
  obtain ⟨u3, f3, hY⟩ := cal_out hY
  obtain ⟨u4, f4, hY⟩ := cal_out hY
  obtain ⟨a1, k1, q1⟩ := q_word hn hT h e1 f1 (by decide) h26 hp
  obtain ⟨a2, k2, q2⟩ := q_nb hn hT k1 e2 e3 f2 (by decide) 2 24 (by decide) (by decide) (by decide) (by decide) h26 rfl
  obtain ⟨a3, k3, q3⟩ := q_nb hn hT k2 e4 e5 f3 (by decide) 1 5 (by decide) (by decide) (by decide) (by decide) h26 rfl
  obtain ⟨a4, k4, q4⟩ := q_nb hn hT k3 e6 e7 f4 (by decide) 1 5 (by decide) (by decide) (by decide) (by decide) h26 rfl
  subst hY
  refine ⟨a4, ?_, fun q => ?_⟩
  · split at hX
    · subst hX
      exact k4
    · subst hX
      exact k4
  · obtain ⟨r3, r4⟩ := q4 q
    obtain ⟨r2, s3⟩ := q3 r3
    obtain ⟨r1, s2⟩ := q2 r2
    rw [if_pos ((aQ_fk k4).mpr q)] at hX
    subst hX
    refine ⟨q1 r1, ?_, s2.2.1, s2.2.2, s3.2.1, s3.2.2, r4.2.1, r4.2.2⟩
    show (o3.1, o5.1, o7.1) = (u2.1, u3.1, u4.1)
    rw [s2.1, s3.1, r4.1]
theorem aExp_true (k : Int32) (a : aS) : aExp true k a = a := by
  unfold aExp
  split
  · rfl
  · rfl
def fp7 (p : M7) (k : Int32) : M7 := if p.2.2.2.2.2.2 = 0 then (k, p.2.2.2.1, p.2.2.1, p.2.2.2.1, p.2.2.2.2.1, p.2.2.2.2.2.1, 1) else p
theorem faults_fp {mi : Nat → Int32} {k : Int32} {o : Int32 × Int32 × Int32} (h : o = fX12_faults mi k) : (o.1, o.2.1, mi 29, mi 30, mi 31, mi 32, o.2.2) = fp7 (own7 mi) k := by
  rw [rx_faults] at h
  unfold fp7
  by_cases h1 : mi 33 = 0
  · rw [if_pos h1] at h
    subst h
    exact (if_pos h1).symm
  · rw [if_neg h1] at h
    subst h
    exact (if_neg h1).symm
theorem r_fault {t : Nat → Int} {n : Nat} {a : aS} {p : M7} (c : Bool) {k : Int32} (hk : k ≠ 0) (h : aR7 t n a p) : aR7 t n (aExp c k a) (if c = true then p else fp7 p k) := by
  cases c with
  | true =>
    rw [aExp_true, if_pos rfl]
    exact h
  | false =>
    rw [if_neg Bool.false_ne_true]
    unfold fp7
    unfold aR7 at h
    by_cases h1 : a.1 = true
    · rw [if_pos h1] at h
      rw [if_neg (by rw [h.2.1]; decide), show aExp false k a = a from if_pos h1]
      unfold aR7
      rw [if_pos h1]
      exact h
    · rw [if_neg h1] at h
      rw [if_pos h.2.1, show aExp false k a = aBad k (nI a.2.2.2) from if_neg h1]
      unfold aR7
      rw [if_pos (show (aBad k (nI a.2.2.2)).1 = true from rfl)]
      exact ⟨hk, rfl, rfl, h.2.2.2.2.2.2.1⟩
theorem q_head {L n : Nat} {bt tp mi : Nat → Int32} {a : aS} {c : C5} {p : M7} {p1 : Int32} (hn : n ≤ 1600) (hT : TR n bt tp) (h : aQ L n bt a c p) (b : Bool) (hb : p1 = if b = true then 1 else 0) {o : C5} (ho : o = fX6_passHead c.1 c.2.1 c.2.2.1 c.2.2.2.1 c.2.2.2.2 (nI n) bt p1) {F : M7} (hF : F = if b = true then p else fp7 p 3) {u : M7} (hu : u = fX12_passes mi tp 1) (h26 : mi 26 = nI n) (hp : own7 mi = F) : ∃ a', aQ L n bt a' o u ∧ (a'.1 = false → a.1 = false ∧ b = true) := by
  subst ho hu
  have h1 := r_fault b (k := 3) (by decide) h.2.1
  rw [← hF, ← hp] at h1
  have h2 := rx_passes hn true (p1 := 1) (fun _ => rfl) ((tr_RR hT _ mi).mpr ⟨h26, h1⟩)
  rw [aExp_true, tr_step hT] at h2
  exact ⟨_, aQ_of hT (cx_head hn b hb h.1) h2 (aB_step (aB_exp h.2.2)), fun q => aExp_okb (aStep_ok q)⟩
theorem b_ite {x : Prop} [Decidable x] {α : Type} (u v : α) : (if x then u else v) = if decide x = true then u else v := by
  by_cases h : x
  · rw [if_pos h, if_pos (decide_eq_true h)]
  · rw [if_neg h, if_neg (fun q => h (of_decide_eq_true q))]
theorem ln_moon {L n : Nat} {bt tp mi : Nat → Int32} {a : aS} {c : C5} {p : M7} (hn : n ≤ 1600) (hT : TR n bt tp) (h : aQ L n bt a c p) {eh es ep : Int32} (hm : eh = mi 4) {X : Int32 × Int32 × Int32 × Int32 × Int32 × Int32 × Int32 × Int32} (hX : X = fX6_readMoon c.1 c.2.1 c.2.2.1 c.2.2.2.1 c.2.2.2.2 (nI n) bt eh es ep) {Y : Int32 × Int32 × Int32 × M7} (hY : Y = fX12_readsMoon mi tp) (h26 : mi 26 = nI n) (hp : own7 mi = p) : ∃ a', aQ L n bt a' (X.1, X.2.1, X.2.2.1, X.2.2.2.1, X.2.2.2.2.1) Y.2.2.2 ∧ (a'.1 = false → a.1 = false ∧ X.2.2.2.2.2 = (Y.1, Y.2.1, Y.2.2.1) ∧ Y.1 = 1) := by
  have hX : X = bfX6_readMoon_16 c.1 c.2.1 c.2.2.1 c.2.2.2.1 c.2.2.2.2 (nI n) bt eh es ep (if eh = 0 then 1 else 0) c.1 c.2.1 c.2.2.1 c.2.2.2.1 c.2.2.2.2 eh es ep := by
    rw [hX]
    unfold fX6_readMoon
    split
    · rfl
    · rfl
  obtain ⟨F, hF, hY⟩ : ∃ F : M7, F = (if decide (mi 4 = 0) = true then p else fp7 p 3) ∧ Y = bfX12_readsMoon_12 mi tp (mi 4) (mi 5) (mi 6) F.1 F.2.1 F.2.2.1 F.2.2.2.1 F.2.2.2.2.1 F.2.2.2.2.2.1 F.2.2.2.2.2.2 := by
    unfold fX12_readsMoon at hY
    refine ⟨_, rfl, ?_⟩
    rw [← hp, ← b_ite]
    by_cases h4 : mi 4 = 0
    · rw [if_pos h4] at hY ⊢
      exact hY
    · rw [if_neg h4] at hY ⊢
      obtain ⟨o1, e1, hY⟩ := cal_out hY
      rw [← faults_fp e1]
      exact hY
  unfold bfX6_readMoon_16 at hX
  obtain ⟨o1, e1, hX⟩ := cal_out hX
  obtain ⟨o2, e2, hX⟩ := cal_out hX
  obtain ⟨o3, e3, hX⟩ := cal_out hX
  obtain ⟨o4, e4, hX⟩ := cal_out hX
  unfold bfX6_readMoon_60 fX0_setMoon cal at hX
  unfold bfX12_readsMoon_12 at hY
  obtain ⟨u1, f1, hY⟩ := cal_out hY
  obtain ⟨u2, f2, hY⟩ := cal_out hY
  obtain ⟨u3, f3, hY⟩ := cal_out hY
  obtain ⟨a1, k1, q1⟩ := q_head hn hT h (decide (mi 4 = 0)) (by rw [hm]; exact b_ite _ _) e1 hF f1 h26 rfl
  obtain ⟨a2, k2, q2⟩ := q_num hn hT k1 e2 f2 0 99999 (by decide) (by decide) (by decide) (by decide) h26 rfl
  obtain ⟨a3, k3, q3⟩ := q_nb hn hT k2 e3 e4 f3 (by decide) 28000 31000 (by decide) (by decide) (by decide) (by decide) h26 rfl
  subst hY
  refine ⟨a3, ?_, fun q => ?_⟩
  · split at hX
    · subst hX
      exact k3
    · subst hX
      exact k3
  · obtain ⟨r2, s3⟩ := q3 q
    obtain ⟨r1, s2⟩ := q2 r2
    rw [if_pos ((aQ_fk k3).mpr q)] at hX
    subst hX
    refine ⟨(q1 r1).1, ?_, rfl⟩
    show ((1 : Int32), o2.1, o4.1) = (1, u2.1, u3.1)
    rw [s2.1, s3.1]
def pfst (Q : Nat → Bool) : Nat → Nat → Int32
  | 0, _ => -1
  | k + 1, p => if Q p = true then nI p else pfst Q k (p + 1)
theorem pfst_eq {P Q : Nat → Bool} : ∀ k p : Nat, (∀ j, p ≤ j → j < p + k → P j = Q j) → pfst P k p = pfst Q k p := by
  intro k
  induction k with
  | zero => intro p _; rfl
  | succ k ih =>
    intro p h
    unfold pfst
    rw [h p (Nat.le_refl _) (by omega), ih (p + 1) (fun j h1 h2 => h j (by omega) (by omega))]
theorem pfst_cases (Q : Nat → Bool) : ∀ k p : Nat, pfst Q k p = -1 ∨ ∃ j, p ≤ j ∧ j < p + k ∧ Q j = true ∧ pfst Q k p = nI j := by
  intro k
  induction k with
  | zero => intro p; exact Or.inl rfl
  | succ k ih =>
    intro p
    unfold pfst
    by_cases h : Q p = true
    · rw [if_pos h]
      exact Or.inr ⟨p, Nat.le_refl _, by omega, h, rfl⟩
    · rw [if_neg h]
      rcases ih (p + 1) with h1 | ⟨j, h1, h2, h3, h4⟩
      · exact Or.inl h1
      · exact Or.inr ⟨j, by omega, by omega, h3, h4⟩
theorem px_placeNamedL {m : Nat} (nm : Nat → Int32) (x : Int32) (hm : m ≤ 6) : ∀ k p z : Nat, p + k = m → k < z → lfX0_placeNamed (nI m) nm x z (nI p) = pfst (fun j => decide (nm j = x)) k p := by
  intro k
  induction k with
  | zero =>
    intro p z hp hz
    obtain ⟨z, rfl⟩ : ∃ y, z = y + 1 := ⟨z - 1, by omega⟩
    show dfX0_placeNamed_2 (nI m) nm x (lfX0_placeNamed (nI m) nm x z) (nI p) = _
    unfold dfX0_placeNamed_2
    rw [if_pos (nI_le (by omega) (by omega))]
    rfl
  | succ k ih =>
    intro p z hp hz
    obtain ⟨z, rfl⟩ : ∃ y, z = y + 1 := ⟨z - 1, by omega⟩
    show dfX0_placeNamed_2 (nI m) nm x (lfX0_placeNamed (nI m) nm x z) (nI p) = _
    unfold dfX0_placeNamed_2 pfst
    rw [if_neg (nI_ge (by omega) (by omega)), nI_clamp (by omega), ← nI_succ, ih (p + 1) z (by omega) (by omega)]
    by_cases h : nm p = x
    · rw [if_pos h, if_pos (decide_eq_true h)]
    · rw [if_neg h, if_neg (fun q => h (of_decide_eq_true q))]
theorem px_placeNamed {m : Nat} (nm : Nat → Int32) (x : Int32) (hm : m ≤ 6) : fX0_placeNamed (nI m) nm x = pfst (fun j => decide (nm j = x)) m 0 := px_placeNamedL nm x hm m 0 1000000000 (by omega) (by omega)
def gsn (f : Nat → Int32) (s e k : Nat) : Int32 := if k < e - s then f (s + k) else 0
theorem gsn_lt {f : Nat → Int32} {s e k : Nat} (h : k < e - s) : gsn f s e k = f (s + k) := if_pos h
theorem gsn_ge {f : Nat → Int32} {s e k : Nat} (h : ¬ k < e - s) : gsn f s e k = 0 := if_neg h
def gall (lt f : Nat → Int32) (s e p : Nat) : Nat → Nat → Bool
  | 0, _ => true
  | k + 1, j => if lt (6 * p + j) = gsn f s e j then gall lt f s e p k (j + 1) else false
theorem gall_s (lt f : Nat → Int32) (s e p k j : Nat) : gall lt f s e p (k + 1) j = if lt (6 * p + j) = gsn f s e j then gall lt f s e p k (j + 1) else false := rfl
def gmt (lt f : Nat → Int32) (s e p : Nat) : Bool := if e - s ≤ 6 then gall lt f s e p 6 0 else false
theorem pr_ix {p j : Nat} (hp : p ≤ 6) (hj : j ≤ 6) : (((6 : Int32) * nI p) + nI j).toNatClampNeg = 6 * p + j := by
  have k1 : (6 : Int32).toInt = 6 := by decide
  have h1 := nI_toInt (n := p) (by omega)
  have h2 := nI_toInt (n := j) (by omega)
  have h3 := gi_mulI (z := (6 : Int32) * nI p) rfl (by rw [k1]; omega) (by rw [k1]; omega)
  have h4 := gi_addI (z := (6 : Int32) * nI p + nI j) rfl (by rw [h3, k1]; omega) (by rw [h3, k1]; omega)
  show (((6 : Int32) * nI p) + nI j).toInt.toNat = _
  rw [h4, h3, k1, h1, h2]
  omega
theorem pr_namedI {mi tp lt : Nat → Int32} {n m s e p k : Nat} (hm : m ≤ 6) (hp : p + (k + 1) = m) (hn : n ≤ 1600) (hse : s ≤ e) (hen : e ≤ n) (h29 : mi 29 = nI e) (h30 : mi 30 = nI s) (ih : ∀ z : Nat, 10 * k + 2 < z → (lfX12_named mi tp lt z).1 (nI (p + 1)) = pfst (gmt lt tp s e) k (p + 1)) : ∀ i j z : Nat, j + i = 6 → 10 * k + i + 4 < z → ((lfX12_named mi tp lt z).2 (nI p) 1 (nI j) = if gall lt tp s e p i j = true then nI p else pfst (gmt lt tp s e) k (p + 1)) ∧ (lfX12_named mi tp lt z).2 (nI p) 0 (nI j) = pfst (gmt lt tp s e) k (p + 1) := by
  have hz0 : ∀ j z : Nat, 10 * k + 3 < z → (lfX12_named mi tp lt z).2 (nI p) 0 (nI j) = pfst (gmt lt tp s e) k (p + 1) := by
    intro j z hz
    obtain ⟨z, rfl⟩ : ∃ y, z = y + 1 := ⟨z - 1, by omega⟩
    show dfX12_named_32 mi tp lt (lfX12_named mi tp lt z) (nI p) 0 (nI j) = _
    unfold dfX12_named_32 bfX12_named_96
    rw [if_pos rfl, if_pos rfl, ← nI_succ, ih z (by omega)]
    split
    · rfl
    · rfl
  intro i
  induction i with
  | zero =>
    intro j z hj hz
    refine ⟨?_, hz0 j z (by omega)⟩
    obtain ⟨z, rfl⟩ : ∃ y, z = y + 1 := ⟨z - 1, by omega⟩
    show dfX12_named_32 mi tp lt (lfX12_named mi tp lt z) (nI p) 1 (nI j) = _
    unfold dfX12_named_32 bfX12_named_96
    rw [if_pos (show (6 : Int32) ≤ nI j from nI_le (a := 6) (by omega) (by omega)), if_neg (by decide)]
    exact (if_pos rfl).symm
  | succ i ih2 =>
    intro j z hj hz
    refine ⟨?_, hz0 j z (by omega)⟩
    obtain ⟨z, rfl⟩ : ∃ y, z = y + 1 := ⟨z - 1, by omega⟩
    obtain ⟨g1, g2⟩ := ih2 (j + 1) z (by omega) (by omega)
    show dfX12_named_32 mi tp lt (lfX12_named mi tp lt z) (nI p) 1 (nI j) = _
    unfold dfX12_named_32 bfX12_named_81 bfX12_named_89
    rw [if_neg (show ¬ (6 : Int32) ≤ nI j from nI_ge (b := 6) (by omega) (by omega)), if_neg (by decide), h29, h30, pz_nsub hse (by omega), pr_ix (by omega) (by omega), nI_add, nI_clamp (by omega), ← nI_succ, g1, g2]
    rw [gall_s]
    unfold gsn
    by_cases h1 : j < e - s
    · rw [if_neg (nI_ge h1 (by omega)), if_pos h1]
      by_cases h2 : lt (6 * p + j) = tp (s + j)
      · rw [if_pos h2, if_pos h2]
      · rw [if_neg h2, if_neg h2, if_neg (by decide)]
    · rw [if_pos (nI_le (by omega) (by omega)), if_neg h1]
      by_cases h2 : lt (6 * p + j) = 0
      · rw [if_pos h2, if_pos h2]
      · rw [if_neg h2, if_neg h2, if_neg (by decide)]
theorem pr_namedL {mi tp lt : Nat → Int32} {n m s e : Nat} (hm : m ≤ 6) (hn : n ≤ 1600) (hse : s ≤ e) (hen : e ≤ n) (h7 : mi 7 = nI m) (h29 : mi 29 = nI e) (h30 : mi 30 = nI s) : ∀ k p z : Nat, p + k = m → 10 * k + 2 < z → (lfX12_named mi tp lt z).1 (nI p) = pfst (gmt lt tp s e) k p := by
  intro k
  induction k with
  | zero =>
    intro p z hp hz
    obtain ⟨z, rfl⟩ : ∃ y, z = y + 1 := ⟨z - 1, by omega⟩
    show dfX12_named_2 mi tp lt (lfX12_named mi tp lt z) (nI p) = _
    unfold dfX12_named_2
    rw [h7, if_pos (nI_le (by omega) (by omega))]
    rfl
  | succ k ih =>
    intro p z hp hz
    obtain ⟨z, rfl⟩ : ∃ y, z = y + 1 := ⟨z - 1, by omega⟩
    obtain ⟨g1, g2⟩ := pr_namedI (tp := tp) (lt := lt) hm hp hn hse hen h29 h30 (fun z hz => ih (p + 1) z (by omega) hz) 6 0 z (by omega) (by omega)
    show dfX12_named_2 mi tp lt (lfX12_named mi tp lt z) (nI p) = _
    unfold dfX12_named_2 bfX12_named_29 pfst gmt
    rw [h7, if_neg (nI_ge (by omega) (by omega)), h29, h30, pz_nsub hse (by omega)]
    by_cases h1 : e - s ≤ 6
    · rw [if_neg (show ¬ (6 : Int32) < nI (e - s) from nI_nlt (a := 6) (b := e - s) h1 (by omega)), if_pos h1]
      exact g1
    · rw [if_pos (show (6 : Int32) < nI (e - s) from nI_lt (a := 6) (by omega) (by omega)), if_neg h1, if_neg (by decide)]
      exact g2
theorem pr_named {mi tp lt : Nat → Int32} {n m s e : Nat} (hm : m ≤ 6) (hn : n ≤ 1600) (hse : s ≤ e) (hen : e ≤ n) (h7 : mi 7 = nI m) (h29 : mi 29 = nI e) (h30 : mi 30 = nI s) : fX12_named mi tp lt = pfst (gmt lt tp s e) m 0 := pr_namedL hm hn hse hen h7 h29 h30 m 0 1000000000 (by omega) (by omega)
def pdg (x : Int) : Int := if cL x = true then x - 96 else 0
theorem pdg_m : pdg (-1 : Int32).toInt = pdg (0 : Int32).toInt := by decide
theorem pdg_le (x : Int) : 0 ≤ pdg x ∧ pdg x ≤ 26 := by
  unfold pdg
  split
  · rename_i h
    have h1 : 97 ≤ x ∧ x ≤ 122 := of_decide_eq_true h
    omega
  · omega
def pcod (g : Nat → Int) : Nat → Nat → Int → Int
  | 0, _, v => v
  | k + 1, j, v => pcod g k (j + 1) (27 * v + pdg (g j))
theorem pcod_s (g : Nat → Int) (k j : Nat) (v : Int) : pcod g (k + 1) j v = pcod g k (j + 1) (27 * v + pdg (g j)) := rfl
theorem pw27 : ∀ i : Nat, (1 : Int) ≤ 27 ^ i := by
  intro i
  induction i with
  | zero => decide
  | succ i ih => rw [Int.pow_succ]; omega
theorem lnh_s (a b c : Int32) (bt : Nat → Int32) (z : Nat) (v j : Int32) : lfX6_nameHere a b c bt (z + 1) v j = dfX6_nameHere_4 a b c bt (lfX6_nameHere a b c bt z) v j := rfl
theorem px_nh1 {bt : Nat → Int32} {n s e j : Nat} {K : Int32 → Int32 → Int32} {v : Int32} (hn : n ≤ 1600) (hse : s ≤ e) (hen : e ≤ n) (hj : j < 6) (h1 : j < e - s) : dfX6_nameHere_4 (nI s) (nI e) (nI n) bt K v (nI j) = bfX6_nameHere_37 (nI s) (nI e) (nI n) bt K v (nI j) (bt (s + j)) := by
  unfold dfX6_nameHere_4
  rw [if_neg (show ¬ (6 : Int32) ≤ nI j from nI_ge (b := 6) hj (by omega)), nI_add, if_neg (nI_ge (by omega) (by omega)), cal_b, px_byteAt bt (by omega) (by omega)]
theorem px_nh0 {bt : Nat → Int32} {n s e j : Nat} {K : Int32 → Int32 → Int32} {v : Int32} (hn : n ≤ 1600) (hse : s ≤ e) (hen : e ≤ n) (hj : j < 6) (h1 : ¬ j < e - s) : dfX6_nameHere_4 (nI s) (nI e) (nI n) bt K v (nI j) = bfX6_nameHere_37 (nI s) (nI e) (nI n) bt K v (nI j) (-1) := by
  unfold dfX6_nameHere_4
  rw [if_neg (show ¬ (6 : Int32) ≤ nI j from nI_ge (b := 6) hj (by omega)), nI_add, if_pos (nI_le (a := e) (b := s + j) (by omega) (by omega))]
theorem px_nameL {bt : Nat → Int32} {n s e : Nat} (hn : n ≤ 1600) (hse : s ≤ e) (hen : e ≤ n) : ∀ (i j z : Nat) (v : Int32) (V : Int), j + i = 6 → i < z → v.toInt = V → 0 ≤ V → V * 27 ^ i + 27 ^ i ≤ 387420489 → (lfX6_nameHere (nI s) (nI e) (nI n) bt z v (nI j)).toInt = pcod (fun k => (gsn bt s e k).toInt) i j V := by
  intro i
  have k27 : (27 : Int32).toInt = 27 := by decide
  have k97 : (97 : Int32).toInt = 97 := by decide
  have k1 : (1 : Int32).toInt = 1 := by decide
  have k0 : (0 : Int32).toInt = 0 := by decide
  induction i with
  | zero =>
    intro j z v V hj hz hv h0 hb
    obtain ⟨z, rfl⟩ : ∃ y, z = y + 1 := ⟨z - 1, by omega⟩
    rw [lnh_s]
    unfold dfX6_nameHere_4
    rw [if_pos (show (6 : Int32) ≤ nI j from nI_le (a := 6) (by omega) (by omega))]
    rw [hv]
    rfl
  | succ i ih =>
    intro j z v V hj hz hv h0 hb
    obtain ⟨z, rfl⟩ : ∃ y, z = y + 1 := ⟨z - 1, by omega⟩
    have hpow : (27 : Int) ^ (i + 1) = 27 * 27 ^ i := by rw [Int.pow_succ]; omega
    have hp1 : (1 : Int) ≤ 27 ^ i := pw27 i
    rw [hpow] at hb
    have hV : V * 27 + 27 ≤ 387420489 := by
      have h1 : V * (27 * 27 ^ i) = (V * 27) * 27 ^ i := by rw [Int.mul_assoc]
      have h2 : (V * 27) * 1 ≤ (V * 27) * 27 ^ i := Int.mul_le_mul_of_nonneg_left hp1 (by omega)
      omega
    have m1 := gi_mulI (z := v * (27 : Int32)) rfl (by rw [k27]; omega) (by rw [k27]; omega)
    rw [hv, k27] at m1
    have key : ∀ s0 : Int32, (bfX6_nameHere_37 (nI s) (nI e) (nI n) bt (lfX6_nameHere (nI s) (nI e) (nI n) bt z) v (nI j) s0).toInt = pcod (fun k => (gsn bt s e k).toInt) i (j + 1) (27 * V + pdg s0.toInt) := by
      intro s0
      have hd := pdg_le s0.toInt
      have hb2 : (27 * V + pdg s0.toInt) * 27 ^ i + 27 ^ i ≤ 387420489 := by
        have h1 : V * (27 * 27 ^ i) = 27 * V * 27 ^ i := by rw [← Int.mul_assoc, Int.mul_comm V 27]
        have h2 : pdg s0.toInt * 27 ^ i ≤ 26 * 27 ^ i := Int.mul_le_mul_of_nonneg_right hd.2 (by omega)
        have h3 : (27 * V + pdg s0.toInt) * 27 ^ i = 27 * V * 27 ^ i + pdg s0.toInt * 27 ^ i := Int.add_mul _ _ _
        omega
      unfold bfX6_nameHere_37 bfX6_nameHere_59 cal
      dsimp only
      rw [px_isLetter, ← nI_succ]
      by_cases h : cL s0.toInt = true
      · have hl : 97 ≤ s0.toInt ∧ s0.toInt ≤ 122 := of_decide_eq_true h
        have m2 := gi_subI (z := s0 - (97 : Int32)) rfl (by rw [k97]; omega) (by rw [k97]; omega)
        have m3 := gi_addI (z := s0 - (97 : Int32) + (1 : Int32)) rfl (by rw [m2, k97, k1]; omega) (by rw [m2, k97, k1]; omega)
        have m4 := gi_addI (z := v * (27 : Int32) + (s0 - (97 : Int32) + (1 : Int32))) rfl (by rw [m1, m3, m2, k97, k1]; omega) (by rw [m1, m3, m2, k97, k1]; omega)
        rw [m1, m3, m2, k97, k1] at m4
        have e1 : pdg s0.toInt = s0.toInt - 96 := if_pos h
        rw [if_pos h, if_neg (by decide)]
        exact ih (j + 1) z _ _ (by omega) (by omega) (by rw [m4, e1]; omega) (by omega) hb2
      · have m4 := gi_addI (z := v * (27 : Int32) + (0 : Int32)) rfl (by rw [m1, k0]; omega) (by rw [m1, k0]; omega)
        rw [m1, k0] at m4
        have e1 : pdg s0.toInt = 0 := if_neg h
        rw [if_neg h, if_pos rfl]
        exact ih (j + 1) z _ _ (by omega) (by omega) (by rw [m4, e1]; omega) (by omega) hb2
    rw [pcod_s, lnh_s]
    by_cases h1 : j < e - s
    · rw [px_nh1 hn hse hen (by omega) h1, key]
      show _ = pcod (fun k => (gsn bt s e k).toInt) i (j + 1) (27 * V + pdg (gsn bt s e j).toInt)
      rw [gsn_lt h1]
    · rw [px_nh0 hn hse hen (by omega) h1, key]
      show _ = pcod (fun k => (gsn bt s e k).toInt) i (j + 1) (27 * V + pdg (gsn bt s e j).toInt)
      rw [gsn_ge h1, pdg_m]
theorem px_name {bt : Nat → Int32} {n s e : Nat} (hn : n ≤ 1600) (hse : s ≤ e) (hen : e ≤ n) : (fX6_nameHere (nI s) (nI e) (nI n) bt).toInt = pcod (fun k => (gsn bt s e k).toInt) 6 0 0 := by
  unfold fX6_nameHere
  exact px_nameL hn hse hen 6 0 1000000000 0 0 (by omega) (by omega) (by decide) (by decide) (by decide)
theorem pcod_inj {g h : Nat → Int} : ∀ (k j : Nat) (u v : Int), pcod g k j u = pcod h k j v ↔ (u = v ∧ ∀ i, j ≤ i → i < j + k → pdg (g i) = pdg (h i)) := by
  intro k
  induction k with
  | zero =>
    intro j u v
    exact ⟨fun q => ⟨q, fun i h1 h2 => absurd h2 (by omega)⟩, fun q => q.1⟩
  | succ k ih =>
    intro j u v
    have h1 := pdg_le (g j)
    have h2 := pdg_le (h j)
    show pcod g k (j + 1) (27 * u + pdg (g j)) = pcod h k (j + 1) (27 * v + pdg (h j)) ↔ _
    rw [ih (j + 1)]
    constructor
    · rintro ⟨q1, q2⟩
      refine ⟨by omega, fun i g1 g2 => ?_⟩
      by_cases q3 : i = j
      · rw [q3]
        omega
      · exact q2 i (by omega) (by omega)
    · rintro ⟨q1, q2⟩
      have q3 := q2 j (Nat.le_refl _) (by omega)
      exact ⟨by omega, fun i g1 g2 => q2 i (by omega) (by omega)⟩
def isz (x : Int) : Prop := x = 0 ∨ (97 ≤ x ∧ x ≤ 122)
theorem pdg_isz {x y : Int} (hx : isz x) (hy : isz y) : pdg x = pdg y ↔ x = y := by
  have e : ∀ z : Int, isz z → pdg z = if z = 0 then 0 else z - 96 := by
    intro z hz
    unfold pdg
    by_cases h : cL z = true
    · have h1 : 97 ≤ z ∧ z ≤ 122 := of_decide_eq_true h
      rw [if_pos h, if_neg (by omega)]
    · rw [if_neg h]
      rcases hz with h2 | h2
      · rw [if_pos h2]
      · exact absurd (decide_eq_true h2) h
  rw [e x hx, e y hy]
  unfold isz at hx hy
  split
  · split
    · omega
    · omega
  · split
    · omega
    · omega
def NM (m : Nat) (nm lt : Nat → Int32) : Prop := ∀ p, p < m → (nm p).toInt = pcod (fun k => (lt (6 * p + k)).toInt) 6 0 0 ∧ ∀ k, k < 6 → isz (lt (6 * p + k)).toInt
theorem gall_iff (lt f : Nat → Int32) (s e p : Nat) : ∀ k j : Nat, gall lt f s e p k j = true ↔ ∀ i, j ≤ i → i < j + k → lt (6 * p + i) = gsn f s e i := by
  intro k
  induction k with
  | zero =>
    intro j
    exact ⟨fun _ i h1 h2 => absurd h2 (by omega), fun _ => rfl⟩
  | succ k ih =>
    intro j
    unfold gall
    by_cases h : lt (6 * p + j) = gsn f s e j
    · rw [if_pos h, ih (j + 1)]
      constructor
      · intro q i h1 h2
        by_cases h3 : i = j
        · rw [h3]
          exact h
        · exact q i (by omega) (by omega)
      · intro q i h1 h2
        exact q i (by omega) (by omega)
    · rw [if_neg h]
      exact ⟨fun q => absurd q (by decide), fun q => absurd (q j (Nat.le_refl _) (by omega)) h⟩
theorem wd_letters {n s : Nat} {bt : Nat → Int32} (hk : (ptok (fun j => (bt j).toInt) n s).1 = 2) : s < n ∧ s ≤ (ptok (fun j => (bt j).toInt) n s).2 ∧ (ptok (fun j => (bt j).toInt) n s).2 ≤ n ∧ ∀ j, s ≤ j → j < (ptok (fun j => (bt j).toInt) n s).2 → 97 ≤ (bt j).toInt ∧ (bt j).toInt ≤ 122 := by
  obtain ⟨g1, g2⟩ := ptok_2 hk
  have hle := ptok_le (fun j => (bt j).toInt) (n := n) (s := s) (by omega)
  exact ⟨g1, hle.1, hle.2, fun j q1 q2 => of_decide_eq_true (prun_all (fun j => cL (bt j).toInt) (n - s) s j q1 (by rw [← g2]; exact q2))⟩
theorem gsn_eq {f h : Nat → Int32} {s e : Nat} (he : ∀ j, s ≤ j → j < e → f j = h j) (k : Nat) : gsn f s e k = gsn h s e k := by
  unfold gsn
  by_cases h1 : k < e - s
  · rw [if_pos h1, if_pos h1, he (s + k) (by omega) (by omega)]
  · rw [if_neg h1, if_neg h1]
theorem gmt_eq {f h lt : Nat → Int32} {s e : Nat} (he : ∀ j, s ≤ j → j < e → f j = h j) (p : Nat) : gmt lt f s e p = gmt lt h s e p := by
  have h1 : ∀ k j : Nat, gall lt f s e p k j = gall lt h s e p k j := by
    intro k
    induction k with
    | zero => intro j; rfl
    | succ k ih =>
      intro j
      unfold gall
      rw [gsn_eq he, ih (j + 1)]
  unfold gmt
  rw [h1]
theorem nm_match {n m s p : Nat} {bt nm lt : Nat → Int32} (hn : n ≤ 1600) (hN : NM m nm lt) (hp : p < m) (hk : (ptok (fun j => (bt j).toInt) n s).1 = 2) (h6 : (ptok (fun j => (bt j).toInt) n s).2 - s ≤ 6) : (nm p = fX6_nameHere (nI s) (nI (ptok (fun j => (bt j).toInt) n s).2) (nI n) bt) ↔ gmt lt bt s (ptok (fun j => (bt j).toInt) n s).2 p = true := by
  obtain ⟨g1, g2, g3, hL⟩ := wd_letters hk
  generalize (ptok (fun j => (bt j).toInt) n s).2 = e at g2 g3 hL h6 ⊢
  have hg : ∀ k, isz (gsn bt s e k).toInt := by
    intro k
    unfold gsn
    by_cases h1 : k < e - s
    · rw [if_pos h1]
      exact Or.inr (hL (s + k) (by omega) (by omega))
    · rw [if_neg h1]
      exact Or.inl (by decide)
  obtain ⟨h1, h2⟩ := hN p hp
  unfold gmt
  rw [if_pos h6, gall_iff, ← Int32.toInt_inj, h1, px_name hn g2 g3, pcod_inj]
  constructor
  · rintro ⟨-, q⟩ i q1 q2
    exact Int32.toInt_inj.mp ((pdg_isz (h2 i (by omega)) (hg i)).mp (q i q1 q2))
  · intro q
    refine ⟨rfl, fun i q1 q2 => ?_⟩
    show pdg (lt (6 * p + i)).toInt = pdg (gsn bt s e i).toInt
    rw [q i q1 q2]
def aFnd (bt lt : Nat → Int32) (n m s : Nat) : Int32 := pfst (gmt lt bt s (ptok (fun j => (bt j).toInt) n s).2) m 0
theorem aExp_two (c d : Bool) (k : Int32) (a : aS) : aExp d k (aExp c k a) = aExp (c && d) k a := by
  unfold aExp
  by_cases h : a.1 = true
  · rw [if_pos h, if_pos h, if_pos h]
  · rw [if_neg h, if_neg h]
    cases c with
    | true =>
      show (if a.1 = true then a else if d = true then a else aBad k (nI a.2.2.2)) = if (true && d) = true then a else aBad k (nI a.2.2.2)
      rw [if_neg h]
      rfl
    | false => rfl
def aNam (bt lt : Nat → Int32) (n m : Nat) (told : Bool) (a : aS) : aS := aStep (fun j => (bt j).toInt) n (aExp (decide ((ptok (fun j => (bt j).toInt) n a.2.2.2).2 - a.2.2.2 ≤ 6) && decide (decide (aFnd bt lt n m a.2.2.2 ≠ -1) = told)) 2 (aExp (decide ((ptok (fun j => (bt j).toInt) n a.2.2.2).1 = 2)) 1 a))
theorem fnd_class {n m s : Nat} {bt nm lt : Nat → Int32} (hn : n ≤ 1600) (hm : m ≤ 6) (hN : NM m nm lt) (hk : (ptok (fun j => (bt j).toInt) n s).1 = 2) (h6 : (ptok (fun j => (bt j).toInt) n s).2 - s ≤ 6) : fX0_placeNamed (nI m) nm (fX6_nameHere (nI s) (nI (ptok (fun j => (bt j).toInt) n s).2) (nI n) bt) = aFnd bt lt n m s := by
  rw [px_placeNamed nm _ hm]
  unfold aFnd
  refine pfst_eq m 0 (fun j h1 h2 => ?_)
  have h3 := nm_match hn hN (show j < m by omega) hk h6
  cases hq : gmt lt bt s (ptok (fun j => (bt j).toInt) n s).2 j with
  | true => exact decide_eq_true (h3.mpr hq)
  | false => exact decide_eq_false (fun q => by rw [h3.mp q] at hq; exact absurd hq (by decide))
theorem fnd_ref {n m s : Nat} {bt tp lt mi : Nat → Int32} (hn : n ≤ 1600) (hm : m ≤ 6) (hT : TR n bt tp) (hk : (ptok (fun j => (bt j).toInt) n s).1 = 2) (h7 : mi 7 = nI m) (h29 : mi 29 = nI (ptok (fun j => (bt j).toInt) n s).2) (h30 : mi 30 = nI s) : fX12_named mi tp lt = aFnd bt lt n m s := by
  obtain ⟨g1, g2, g3, hL⟩ := wd_letters hk
  rw [pr_named hm hn g2 g3 h7 h29 h30]
  unfold aFnd
  refine pfst_eq m 0 (fun j _ _ => gmt_eq (fun i q1 q2 => ?_) j)
  have h1 := hL i q1 q2
  have h2 := hT i (by omega)
  exact Int32.toInt_inj.mp (by omega)
theorem fnd_long {n m s : Nat} {bt lt : Nat → Int32} (h6 : ¬ (ptok (fun j => (bt j).toInt) n s).2 - s ≤ 6) : aFnd bt lt n m s = -1 := by
  unfold aFnd
  have h1 : ∀ k p : Nat, pfst (gmt lt bt s (ptok (fun j => (bt j).toInt) n s).2) k p = -1 := by
    intro k
    induction k with
    | zero => intro p; rfl
    | succ k ih =>
      intro p
      unfold pfst gmt
      rw [if_neg h6, if_neg (by decide)]
      exact ih (p + 1)
  exact h1 m 0
theorem cx_name {n m : Nat} {bt nm lt : Nat → Int32} {a : aS} {fk fp tok st en : Int32} (hn : n ≤ 1600) (hm : m ≤ 6) (hN : NM m nm lt) (told : Bool) {p1 : Int32} (hp : p1 = if told = true then 1 else 0) (h : aRC (fun j => (bt j).toInt) n a fk fp tok st en) : aRC (fun j => (bt j).toInt) n (aNam bt lt n m told a) (fX6_passName fk fp tok st en (nI n) bt (nI m) nm p1).2.1 (fX6_passName fk fp tok st en (nI n) bt (nI m) nm p1).2.2.1 (fX6_passName fk fp tok st en (nI n) bt (nI m) nm p1).2.2.2.1 (fX6_passName fk fp tok st en (nI n) bt (nI m) nm p1).2.2.2.2.1 (fX6_passName fk fp tok st en (nI n) bt (nI m) nm p1).2.2.2.2.2 ∧ (fX6_passName fk fp tok st en (nI n) bt (nI m) nm p1).1 = fX6_nameHere st en (nI n) bt := by
  have e : fX6_passName fk fp tok st en (nI n) bt (nI m) nm p1 = bfX6_passName_14 fk fp tok st en (nI n) bt (nI m) nm p1 (if tok = 2 then 1 else 0) fk fp tok st en := by
    unfold fX6_passName
    split
    · rfl
    · rfl
  have e2 : ∀ s0 w2 w3 : Int32, bfX6_passName_38 fk fp tok st en (nI n) bt (nI m) nm p1 s0 w2 w3 tok st en = bfX6_passName_74 fk fp tok st en (nI n) bt (nI m) nm p1 (fX6_nameHere st en (nI n) bt) (if (if fX0_placeNamed (nI m) nm (fX6_nameHere st en (nI n) bt) = -1 then (0 : Int32) else 1) = p1 then 1 else 0) (fX6_expect w2 w3 st s0 2).1 (fX6_expect w2 w3 st s0 2).2 tok st en := by
    intro s0 w2 w3
    unfold bfX6_passName_38 bfX6_passName_65 cal
    dsimp only
    by_cases h1 : fX0_placeNamed (nI m) nm (fX6_nameHere st en (nI n) bt) = -1
    · rw [if_pos h1, if_pos h1]
      split
      · rfl
      · rfl
    · rw [if_neg h1, if_neg h1]
      split
      · rfl
      · rfl
  have e3 : bfX6_passName_14 fk fp tok st en (nI n) bt (nI m) nm p1 (if tok = 2 then 1 else 0) fk fp tok st en = bfX6_passName_38 fk fp tok st en (nI n) bt (nI m) nm p1 (if (6 : Int32) < en - st then 0 else 1) (fX6_expect fk fp st (if tok = 2 then 1 else 0) 1).1 (fX6_expect fk fp st (if tok = 2 then 1 else 0) 1).2 tok st en := by
    unfold bfX6_passName_14 cal
    dsimp only
    split
    · rfl
    · rfl
  rw [e, e3, e2]
  refine ⟨?_, rfl⟩
  have hA := cx_expect (decide ((ptok (fun j => (bt j).toInt) n a.2.2.2).1 = 2)) (k := 1) (p1 := if tok = 2 then 1 else 0) (by decide) (fun h0 => by
    rcases aRC_cases h with ⟨g1, g2, rfl, rfl⟩ | ⟨s, rfl, rfl, rfl, hs, rfl, rfl, rfl⟩
    · rw [g1] at h0
      exact absurd h0 (by intro q; cases q)
    · have hk := ptok_kind (fun j => (bt j).toInt) n s
      show (if nI (ptok (fun j => (bt j).toInt) n s).1 = 2 then (1 : Int32) else 0) = if decide ((ptok (fun j => (bt j).toInt) n s).1 = 2) = true then 1 else 0
      by_cases h5 : (ptok (fun j => (bt j).toInt) n s).1 = 2
      · rw [if_pos (by rw [h5]; rfl), if_pos (decide_eq_true h5)]
      · rw [if_neg (fun (q : nI (ptok (fun j => (bt j).toInt) n s).1 = (2 : Int32)) => h5 (pz_ninj (b := 2) (by omega) (by omega) q)), if_neg (fun q => h5 (of_decide_eq_true q))]) h
  have hB := cx_expect (decide ((ptok (fun j => (bt j).toInt) n a.2.2.2).2 - a.2.2.2 ≤ 6)) (k := 2) (p1 := if (6 : Int32) < en - st then 0 else 1) (by decide) (fun h0 => by
    have h01 := (aExp_okb h0).1
    rcases aRC_cases h with ⟨g1, g2, rfl, rfl⟩ | ⟨s, rfl, rfl, rfl, hs, rfl, rfl, rfl⟩
    · rw [g1] at h01
      exact absurd h01 (by intro q; cases q)
    · have hle := ptok_le (fun j => (bt j).toInt) hs
      rw [pz_nsub hle.1 (by omega)]
      show (if (6 : Int32) < nI ((ptok (fun j => (bt j).toInt) n s).2 - s) then (0 : Int32) else 1) = if decide ((ptok (fun j => (bt j).toInt) n s).2 - s ≤ 6) = true then 1 else 0
      by_cases h5 : (ptok (fun j => (bt j).toInt) n s).2 - s ≤ 6
      · rw [if_neg (show ¬ (6 : Int32) < nI ((ptok (fun j => (bt j).toInt) n s).2 - s) from nI_nlt (a := 6) (b := (ptok (fun j => (bt j).toInt) n s).2 - s) h5 (by omega)), if_pos (decide_eq_true h5)]
      · rw [if_pos (show (6 : Int32) < nI ((ptok (fun j => (bt j).toInt) n s).2 - s) from nI_lt (a := 6) (by omega) (by omega)), if_neg (fun q => h5 (of_decide_eq_true q))]) hA
  have hC := cx_expect (decide (decide (aFnd bt lt n m a.2.2.2 ≠ -1) = told)) (k := 2) (p1 := if (if fX0_placeNamed (nI m) nm (fX6_nameHere st en (nI n) bt) = -1 then (0 : Int32) else 1) = p1 then 1 else 0) (by decide) (fun h0 => by
    obtain ⟨h01, h02⟩ := aExp_okb h0
    obtain ⟨h03, h04⟩ := aExp_okb h01
    rcases aRC_cases h with ⟨g1, g2, rfl, rfl⟩ | ⟨s, rfl, rfl, rfl, hs, rfl, rfl, rfl⟩
    · rw [g1] at h03
      exact absurd h03 (by intro q; cases q)
    · rw [fnd_class (s := s) hn hm hN (of_decide_eq_true h04) (of_decide_eq_true h02), hp]
      show (if (if aFnd bt lt n m s = -1 then (0 : Int32) else 1) = (if told = true then 1 else 0) then (1 : Int32) else 0) = if decide (decide (aFnd bt lt n m s ≠ -1) = told) = true then 1 else 0
      by_cases h5 : aFnd bt lt n m s = -1
      · rw [if_pos h5, decide_eq_false (show ¬ aFnd bt lt n m s ≠ -1 from fun q => q h5)]
        cases told with
        | true => decide
        | false => decide
      · rw [if_neg h5, decide_eq_true h5]
        cases told with
        | true => decide
        | false => decide) hB
  rw [aExp_two] at hC
  unfold bfX6_passName_74 cal aNam
  dsimp only
  exact cx_step hn hC
theorem aNam_true {bt lt : Nat → Int32} {n m : Nat} (a : aS) : aNam bt lt n m true a = aStep (fun j => (bt j).toInt) n (aExp (decide (aFnd bt lt n m a.2.2.2 ≠ -1)) 2 (aExp (decide ((ptok (fun j => (bt j).toInt) n a.2.2.2).1 = 2)) 1 a)) := by
  unfold aNam
  by_cases h : (ptok (fun j => (bt j).toInt) n a.2.2.2).2 - a.2.2.2 ≤ 6
  · rw [decide_eq_true h, Bool.true_and]
    congr 2
    cases decide (aFnd bt lt n m a.2.2.2 ≠ -1) with
    | true => rfl
    | false => rfl
  · rw [decide_eq_false h, Bool.false_and, fnd_long h, decide_eq_false (show ¬ ((-1 : Int32) ≠ -1) from fun q => q rfl)]
theorem rx_b46 {mi tp lt : Nat → Int32} {v w27 w28 w29 w30 w31 w32 w33 : Int32} : bfX12_placeHere_46 mi tp lt v w27 w28 w29 w30 w31 w32 w33 = ((if (0 : Int32) < v then v else 0), fX12_passes (mu7 mi (w27, w28, w29, w30, w31, w32, w33)) tp 1) := rfl
theorem rx_placeHere {n m : Nat} {bt tp lt mi : Nat → Int32} {a : aS} (hn : n ≤ 1600) (hm : m ≤ 6) (hT : TR n bt tp) (h7 : mi 7 = nI m) (h : aRR (fun j => (bt j).toInt) n a mi) : aRR (fun j => (bt j).toInt) n (aNam bt lt n m true a) (mu7 mi (fX12_placeHere mi tp lt).2) ∧ ((aNam bt lt n m true a).1 = false → (fX12_placeHere mi tp lt).1 = aFnd bt lt n m a.2.2.2 ∧ ∃ j, j < m ∧ aFnd bt lt n m a.2.2.2 = nI j) := by
  rw [aNam_true]
  rcases aRR_cases h with ⟨h26, g1, g2, h33, h27, h28⟩ | ⟨s, h26, rfl, h33, h27, h28, hs, h29, h30, h31, h32⟩
  · have hb : ¬ mi 33 = 0 := by rw [h33]; decide
    have e : fX12_placeHere mi tp lt = (0, own7 mi) := by
      unfold fX12_placeHere bfX12_placeHere_20 bfX12_placeHere_35
      rw [if_neg hb, if_neg hb, if_neg (by decide), rx_b46]
      show ((if (0 : Int32) < 0 then (0 : Int32) else 0), fX12_passes (mu7 mi (own7 mi)) tp 1) = _
      rw [mu7_own, rx_pbad 1 hb]
      rfl
    have ea : ∀ (c d : Bool), aStep (fun j => (bt j).toInt) n (aExp c 2 (aExp d 1 a)) = a := by
      intro c d
      unfold aStep aExp
      rw [if_pos g1, if_pos g1, if_pos g1]
    rw [ea, e]
    refine ⟨?_, fun q => absurd (q.symm.trans g1) (by decide)⟩
    show aRR _ n a (mu7 mi (own7 mi))
    rw [mu7_own]
    exact h
  · have hk := ptok_kind (fun j => (bt j).toInt) n s
    have hk2 := pkind_le hk
    by_cases g3 : (ptok (fun j => (bt j).toInt) n s).1 = 2
    · have g31 : mi 31 = 1 := by rw [h31, g3]; rfl
      have hf := fnd_ref (lt := lt) (mi := mi) hn hm hT g3 h7 h29 h30
      have ea1 : aExp (decide ((ptok (fun j => (bt j).toInt) n (aOk s).2.2.2).1 = 2)) 1 (aOk s) = aOk s := if_pos (decide_eq_true g3)
      rw [ea1]
      have e20 : fX12_placeHere mi tp lt = bfX12_placeHere_35 mi tp lt (aFnd bt lt n m s) (mi 27) (mi 28) (mi 29) (mi 30) (mi 31) (mi 32) (mi 33) := by
        unfold fX12_placeHere bfX12_placeHere_20 cal
        dsimp only
        rw [if_pos h33, if_pos g31, if_pos h33]
        show bfX12_placeHere_35 mi tp lt (fX12_named (mu7 mi (own7 mi)) tp lt) _ _ _ _ _ _ _ = _
        rw [mu7_own, hf]
      by_cases g4 : aFnd bt lt n m s = -1
      · have e : fX12_placeHere mi tp lt = (0, 2, mi 30, mi 29, mi 30, mi 31, mi 32, 1) := by
          rw [e20]
          unfold bfX12_placeHere_35 cal
          dsimp only
          rw [if_pos g4]
          show bfX12_placeHere_46 mi tp lt (aFnd bt lt n m s) (fX12_faults (mu7 mi (own7 mi)) 2).1 (fX12_faults (mu7 mi (own7 mi)) 2).2.1 (mi 29) (mi 30) (mi 31) (mi 32) (fX12_faults (mu7 mi (own7 mi)) 2).2.2 = _
          rw [mu7_own, rx_faults, if_pos h33, g4, rx_b46, rx_pbad 1 (show ¬ (1 : Int32) = 0 by decide)]
          rfl
        have ea : aStep (fun j => (bt j).toInt) n (aExp (decide (aFnd bt lt n m (aOk s).2.2.2 ≠ -1)) 2 (aOk s)) = aBad 2 (nI s) := by
          rw [show aExp (decide (aFnd bt lt n m (aOk s).2.2.2 ≠ -1)) 2 (aOk s) = aBad 2 (nI s) from if_neg (fun q => (show aFnd bt lt n m s ≠ -1 from of_decide_eq_true q) g4)]
          rfl
        rw [ea, e]
        exact ⟨aRR_bad h26 rfl (show (2 : Int32) ≠ 0 by decide) rfl rfl h30, fun q => absurd q (by intro q; cases q)⟩
      · obtain ⟨j, -, hj, -, ej⟩ := (pfst_cases (gmt lt bt s (ptok (fun j => (bt j).toInt) n s).2) m 0).resolve_left g4
        have ej : aFnd bt lt n m s = nI j := ej
        have e : fX12_placeHere mi tp lt = (aFnd bt lt n m s, fX12_passes mi tp 1) := by
          rw [e20]
          unfold bfX12_placeHere_35
          rw [if_neg g4, rx_b46]
          show ((if (0 : Int32) < aFnd bt lt n m s then aFnd bt lt n m s else 0), fX12_passes (mu7 mi (own7 mi)) tp 1) = _
          rw [mu7_own, ej]
          by_cases h0 : 0 < j
          · rw [if_pos (show (0 : Int32) < nI j from nI_lt (a := 0) h0 (by omega))]
          · rw [show j = 0 by omega, if_neg (by decide)]
            rfl
        have ea : aStep (fun j => (bt j).toInt) n (aExp (decide (aFnd bt lt n m (aOk s).2.2.2 ≠ -1)) 2 (aOk s)) = aStep (fun j => (bt j).toInt) n (aExp true 1 (aOk s)) := by
          rw [show aExp (decide (aFnd bt lt n m (aOk s).2.2.2 ≠ -1)) 2 (aOk s) = aOk s from if_pos (decide_eq_true g4)]
          rfl
        rw [ea, e]
        refine ⟨?_, fun _ => ⟨rfl, j, by omega, ej⟩⟩
        have h1 := rx_passes (p1 := 1) hn true (fun _ => rfl) ((tr_RR hT _ mi).mpr h)
        rw [tr_step hT] at h1
        exact (tr_RR hT _ _).mp h1
    · have g31 : ¬ mi 31 = 1 := fun q => by
        rw [h31] at q
        exact g3 ((pkind_1 hk).mp (pz_ninj (b := 1) (by omega) (by omega) q))
      have ea : ∀ c : Bool, aStep (fun j => (bt j).toInt) n (aExp c 2 (aExp (decide ((ptok (fun j => (bt j).toInt) n (aOk s).2.2.2).1 = 2)) 1 (aOk s))) = aBad 1 (nI s) := by
        intro c
        rw [show aExp (decide ((ptok (fun j => (bt j).toInt) n (aOk s).2.2.2).1 = 2)) 1 (aOk s) = aBad 1 (nI s) from if_neg (fun q => g3 (of_decide_eq_true q))]
        rfl
      have e : fX12_placeHere mi tp lt = (0, 1, mi 30, mi 29, mi 30, mi 31, mi 32, 1) := by
        unfold fX12_placeHere cal
        dsimp only
        rw [if_pos h33, if_neg g31, rx_faults, if_pos h33]
        unfold bfX12_placeHere_20 bfX12_placeHere_35
        rw [if_neg (show ¬ (1 : Int32) = 0 by decide), if_neg (show ¬ (0 : Int32) = -1 by decide), rx_b46, rx_pbad 1 (show ¬ (1 : Int32) = 0 by decide)]
        rfl
      rw [ea, e]
      exact ⟨aRR_bad h26 rfl (show (1 : Int32) ≠ 0 by decide) rfl rfl h30, fun q => absurd q (by intro q; cases q)⟩
theorem aQ_ok {L n : Nat} {bt : Nat → Int32} {a : aS} {c : C5} {p : M7} (h : aQ L n bt a c p) (ha : a.1 = false) : ∃ s, a = aOk s ∧ c.1 = 0 ∧ c.2.1 = -1 ∧ s ≤ n ∧ c.2.2.1 = nI (ptok (fun j => (bt j).toInt) n s).1 ∧ c.2.2.2.1 = nI s ∧ c.2.2.2.2 = nI (ptok (fun j => (bt j).toInt) n s).2 ∧ p.2.2.2.2.2.2 = 0 ∧ p.1 = 0 ∧ p.2.1 = -1 ∧ p.2.2.1 = nI (ptok (fun j => (bt j).toInt) n s).2 ∧ p.2.2.2.1 = nI s ∧ p.2.2.2.2.1 = nI (pkind (ptok (fun j => (bt j).toInt) n s).1) ∧ (p.2.2.2.2.2.1).toInt = pvalT (fun j => (bt j).toInt) n s := by
  rcases aRC_cases h.1 with ⟨h1, -⟩ | ⟨s, rfl, h2, h3, h4, h5, h6, h7⟩
  · rw [h1] at ha
    exact absurd ha (by decide)
  · have h8 := h.2.1
    unfold aR7 at h8
    rw [if_neg (show ¬ (aOk s).1 = true from Bool.false_ne_true)] at h8
    obtain ⟨-, g1, g2, g3, g4, g5, g6, g7, g8⟩ := h8
    exact ⟨s, rfl, h2, h3, h4, h5, h6, h7, g1, g2, g3, g5, g6, g7, g8⟩
theorem aQ_sub {L n : Nat} {bt tp mi : Nat → Int32} {a : aS} {c : C5} {p : M7} (h : aQ L n bt a c p) (h26 : mi 26 = nI n) (hp : own7 mi = p) : aRR (fun j => (bt j).toInt) n a mi := by
  subst hp
  exact ⟨h26, h.2.1⟩
theorem q_is {L n wi : Nat} {bt tp mi : Nat → Int32} {a : aS} {c : C5} {p : M7} (hn : n ≤ 1600) (hT : TR n bt tp) (h : aQ L n bt a c p) (ha : a.1 = false) (hw : (stL wi).length ≤ 7) (hp : own7 mi = p) : fX6_isWord c.2.2.1 c.2.2.2.1 c.2.2.2.2 (nI n) bt wi = fX12_isWord mi tp wi ∧ fX12_isWord mi tp wi = if aIs bt n a.2.2.2 (stL wi) = true then 1 else 0 := by
  obtain ⟨s, rfl, h2, h3, h4, h5, h6, h7, g1, g2, g3, g5, g6, g7, g8⟩ := aQ_ok h ha
  subst hp
  have e1 : fX12_isWord mi tp wi = if aIs bt n s (stL wi) = true then 1 else 0 := by
    rw [pr_isWord (s := s) hn h4 hw (by rw [tr_tok hT]; exact g5) g6 (by rw [tr_tok hT]; exact g7), tr_is hT]
  refine ⟨?_, e1⟩
  rw [e1, h5, h6, h7, px_isWord hn h4 hw]
theorem pw_is {n wi : Nat} {bt : Nat → Int32} {c : C5} (h1 : fX6_isWord c.2.2.1 c.2.2.2.1 c.2.2.2.2 (nI n) bt wi = 1) {o : Int32 × Int32 × Int32} (ho : o = fX6_step c.1 c.2.2.1 c.2.2.2.1 c.2.2.2.2 (nI n) bt) : ((c.1, c.2.1, o.1, o.2.1, o.2.2) : C5) = fX6_passWord c.1 c.2.1 c.2.2.1 c.2.2.2.1 c.2.2.2.2 (nI n) bt wi := by
  have e1 : fX6_expect c.1 c.2.1 c.2.2.2.1 1 1 = (c.1, c.2.1) := by
    unfold fX6_expect bfX6_expect_13
    rw [if_neg (by decide)]
  subst ho
  unfold fX6_passWord
  rw [h1, cal_b, cal_b, e1]
  rfl
theorem q_name {L n m : Nat} {bt tp nm lt mi : Nat → Int32} {a : aS} {c : C5} {p : M7} (hn : n ≤ 1600) (hT : TR n bt tp) (h : aQ L n bt a c p) (hm : m ≤ 6) (hN : NM m nm lt) {o : Int32 × C5} (ho : o = fX6_passName c.1 c.2.1 c.2.2.1 c.2.2.2.1 c.2.2.2.2 (nI n) bt (nI m) nm 1) {u : Int32 × M7} (hu : u = fX12_placeHere mi tp lt) (h7 : mi 7 = nI m) (h26 : mi 26 = nI n) (hp : own7 mi = p) : ∃ a', aQ L n bt a' o.2 u.2 ∧ (a'.1 = false → a.1 = false ∧ fX0_placeNamed (nI m) nm o.1 = u.1 ∧ ∃ j, j < m ∧ u.1 = nI j) := by
  subst ho hu
  have h1 := cx_name (lt := lt) (p1 := 1) hn hm hN true rfl h.1
  have h2 := rx_placeHere (lt := lt) hn hm hT h7 (aQ_sub (tp := tp) h h26 hp)
  refine ⟨aNam bt lt n m true a, ⟨h1.1, h2.1.2, aB_step (aB_exp (aB_exp h.2.2))⟩, fun q => ?_⟩
  obtain ⟨q1, j, q2, q3⟩ := h2.2 q
  have q4 := aExp_okb (aStep_ok q)
  have q5 := aExp_okb q4.1
  have q6 : decide ((ptok (fun j => (bt j).toInt) n a.2.2.2).2 - a.2.2.2 ≤ 6) = true := by
    have q7 := q4.2
    revert q7
    cases decide ((ptok (fun j => (bt j).toInt) n a.2.2.2).2 - a.2.2.2 ≤ 6) with
    | true => exact fun _ => rfl
    | false => exact fun q7 => q7
  refine ⟨q5.1, ?_, j, q2, q1.trans q3⟩
  obtain ⟨s, rfl, g2, g3, g4, g5, g6, g7, -⟩ := aQ_ok h q5.1
  rw [h1.2, q1, g6, g7]
  exact fnd_class hn hm hN (of_decide_eq_true q5.2) (of_decide_eq_true q6)
