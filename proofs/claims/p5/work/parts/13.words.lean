/-! words -/
theorem pz_nsub {a b : Nat} (h : b ≤ a) (ha : a < 2147483648) : nI a - nI b = nI (a - b) := by
  have h1 := nI_toInt (n := a) (by omega)
  have h2 := nI_toInt (n := b) (by omega)
  have h3 := nI_toInt (n := a - b) (by omega)
  have h4 := gi_subI (z := nI a - nI b) rfl (by omega) (by omega)
  exact Int32.toInt_inj.mp (by omega)
theorem pz_ninj {a b : Nat} (ha : a < 2147483648) (hb : b < 2147483648) (h : nI a = nI b) : a = b := by
  have h1 := nI_toInt (n := a) (by omega)
  have h2 := nI_toInt (n := b) (by omega)
  rw [h] at h1
  omega
theorem ptok_kind (b : Nat → Int) (n s : Nat) : (ptok b n s).1 ≤ 4 := by
  unfold ptok
  split
  · split
    · exact Nat.le_of_ble_eq_true rfl
    · split
      · exact Nat.le_of_ble_eq_true rfl
      · split
        · exact Nat.le_of_ble_eq_true rfl
        · exact Nat.le_of_ble_eq_true rfl
  · exact Nat.le_of_ble_eq_true rfl
def pwd (f : Nat → Int32) (L : List Int32) (s : Nat) : Nat → Nat → Int32
  | 0, _ => 1
  | k + 1, i => if f (s + i) = (L.getD i 0 &&& 255) then pwd f L s k (i + 1) else 0
def aIs (f : Nat → Int32) (n s : Nat) (L : List Int32) : Bool := decide ((ptok (fun j => (f j).toInt) n s).1 = 2 ∧ (ptok (fun j => (f j).toInt) n s).2 - s = L.length ∧ pwd f L s L.length 0 = 1)
theorem pwd_0 (f : Nat → Int32) (L : List Int32) (s i : Nat) : pwd f L s 0 i = 1 := rfl
theorem pwd_01 (f : Nat → Int32) (L : List Int32) (s : Nat) : ∀ k i : Nat, pwd f L s k i = 0 ∨ pwd f L s k i = 1 := by
  intro k
  induction k with
  | zero => intro i; exact Or.inr rfl
  | succ k ih =>
    intro i
    unfold pwd
    split
    · exact ih (i + 1)
    · exact Or.inl rfl
theorem px_wordL {tok en : Int32} {bt : Nat → Int32} {n s wi : Nat} (hn : n ≤ 1600) (hs : s + (stL wi).length ≤ n) : ∀ k i z : Nat, i + k = (stL wi).length → k < z → lfX6_isWord tok (nI s) en (nI n) bt wi z (nI i) = pwd bt (stL wi) s k i := by
  intro k
  induction k with
  | zero =>
    intro i z hi hz
    obtain ⟨z, rfl⟩ : ∃ y, z = y + 1 := ⟨z - 1, by omega⟩
    show dfX6_isWord_28 tok (nI s) en (nI n) bt wi (lfX6_isWord tok (nI s) en (nI n) bt wi z) (nI i) = _
    unfold dfX6_isWord_28
    rw [if_pos (nI_le (by omega) (by omega))]
    rfl
  | succ k ih =>
    intro i z hi hz
    obtain ⟨z, rfl⟩ : ∃ y, z = y + 1 := ⟨z - 1, by omega⟩
    show dfX6_isWord_28 tok (nI s) en (nI n) bt wi (lfX6_isWord tok (nI s) en (nI n) bt wi z) (nI i) = _
    unfold dfX6_isWord_28 cal
    dsimp only
    rw [if_neg (nI_ge (by omega) (by omega)), nI_add, px_byteAt bt (by omega) (by omega), nI_clamp (by omega), ← nI_succ, ih (i + 1) z (by omega) (by omega)]
    rfl
theorem px_isWord {bt : Nat → Int32} {n s wi : Nat} (hn : n ≤ 1600) (hs : s ≤ n) (hw : (stL wi).length ≤ 7) : fX6_isWord (nI (ptok (fun j => (bt j).toInt) n s).1) (nI s) (nI (ptok (fun j => (bt j).toInt) n s).2) (nI n) bt wi = if aIs bt n s (stL wi) = true then 1 else 0 := by
  have hk := ptok_kind (fun j => (bt j).toInt) n s
  have he := ptok_le (fun j => (bt j).toInt) hs
  unfold fX6_isWord bfX6_isWord_24 aIs
  simp only [decide_eq_true_eq]
  by_cases h1 : (ptok (fun j => (bt j).toInt) n s).1 = 2
  · rw [if_pos (by rw [h1]; rfl), pz_nsub he.1 (by omega)]
    by_cases h2 : (ptok (fun j => (bt j).toInt) n s).2 - s = (stL wi).length
    · rw [if_pos (by rw [h2]), show (0 : Int32) = nI 0 from rfl, px_wordL hn (by omega) (stL wi).length 0 1000000000 (by omega) (by omega)]
      rcases pwd_01 bt (stL wi) s (stL wi).length 0 with h3 | h3
      · rw [h3, if_neg (fun q => absurd q.2.2 (by decide))]
        rfl
      · rw [h3, if_pos ⟨h1, h2, rfl⟩]
    · rw [if_neg (fun q => h2 (pz_ninj (by omega) (by omega) q)), if_neg (fun q => h2 q.2.1)]
  · rw [if_neg (fun (q : nI (ptok (fun j => (bt j).toInt) n s).1 = (2 : Int32)) => h1 (pz_ninj (b := 2) (by omega) (by omega) q)), if_neg (fun q => h1 q.1)]
theorem pr_wordL0 {mi tp : Nat → Int32} {wi : Nat} (z : Nat) (hz : 0 < z) : lfX12_isWord mi tp wi z 0 0 = 0 := by
  obtain ⟨z, rfl⟩ : ∃ y, z = y + 1 := ⟨z - 1, by omega⟩
  show dfX12_isWord_32 mi tp wi (lfX12_isWord mi tp wi z) 0 0 = _
  unfold dfX12_isWord_32 bfX12_isWord_75
  split
  · rfl
  · rw [if_pos rfl]
theorem pr_wordL {mi tp : Nat → Int32} {n s wi : Nat} (hn : n ≤ 1600) (h30 : mi 30 = nI s) (hs : s + (stL wi).length ≤ n) : ∀ k i z : Nat, i + k = (stL wi).length → k + 1 < z → lfX12_isWord mi tp wi z 1 (nI i) = pwd tp (stL wi) s k i := by
  intro k
  induction k with
  | zero =>
    intro i z hi hz
    obtain ⟨z, rfl⟩ : ∃ y, z = y + 1 := ⟨z - 1, by omega⟩
    show dfX12_isWord_32 mi tp wi (lfX12_isWord mi tp wi z) 1 (nI i) = _
    unfold dfX12_isWord_32 bfX12_isWord_75
    rw [if_pos (nI_le (by omega) (by omega))]
    rfl
  | succ k ih =>
    intro i z hi hz
    obtain ⟨z, rfl⟩ : ∃ y, z = y + 1 := ⟨z - 1, by omega⟩
    show dfX12_isWord_32 mi tp wi (lfX12_isWord mi tp wi z) 1 (nI i) = _
    unfold dfX12_isWord_32 bfX12_isWord_68
    rw [if_neg (nI_ge (by omega) (by omega)), if_neg (by decide), h30, nI_add, nI_clamp (by omega), nI_clamp (by omega), ← nI_succ]
    unfold pwd
    split
    · exact ih (i + 1) z (by omega) (by omega)
    · obtain ⟨z, rfl⟩ : ∃ y, z = y + 1 := ⟨z - 1, by omega⟩
      show dfX12_isWord_32 mi tp wi (lfX12_isWord mi tp wi z) 0 (nI (i + 1)) = _
      unfold dfX12_isWord_32 bfX12_isWord_75
      split
      · rfl
      · rw [if_pos rfl]
theorem pkind_1 {k : Nat} (h : k ≤ 4) : pkind k = 1 ↔ k = 2 := by
  unfold pkind
  rcases (show k = 0 ∨ k = 1 ∨ k = 2 ∨ k = 3 ∨ k = 4 by omega) with rfl | rfl | rfl | rfl | rfl <;> decide
theorem pkind_le {k : Nat} (h : k ≤ 4) : pkind k ≤ 4 := by
  unfold pkind
  rcases (show k = 0 ∨ k = 1 ∨ k = 2 ∨ k = 3 ∨ k = 4 by omega) with rfl | rfl | rfl | rfl | rfl <;> decide
theorem pr_isWord {mi tp : Nat → Int32} {n s wi : Nat} (hn : n ≤ 1600) (hs : s ≤ n) (hw : (stL wi).length ≤ 7) (h29 : mi 29 = nI (ptok (fun j => (tp j).toInt) n s).2) (h30 : mi 30 = nI s) (h31 : mi 31 = nI (pkind (ptok (fun j => (tp j).toInt) n s).1)) : fX12_isWord mi tp wi = if aIs tp n s (stL wi) = true then 1 else 0 := by
  have hk := ptok_kind (fun j => (tp j).toInt) n s
  have hk2 := pkind_le hk
  have he := ptok_le (fun j => (tp j).toInt) hs
  unfold fX12_isWord bfX12_isWord_28 bfX12_isWord_29 aIs
  rw [h29, h31, pr_wordL0 1000000000 (by omega)]
  rw [show (mi 30) = nI s from h30, pz_nsub he.1 (by omega)]
  simp only [decide_eq_true_eq]
  by_cases h1 : (ptok (fun j => (tp j).toInt) n s).1 = 2
  · rw [if_pos (by rw [h1]; rfl)]
    by_cases h2 : (ptok (fun j => (tp j).toInt) n s).2 - s = (stL wi).length
    · rw [if_pos (by rw [h2]), show (0 : Int32) = nI 0 from rfl, pr_wordL hn h30 (by omega) (stL wi).length 0 1000000000 (by omega) (by omega)]
      rcases pwd_01 tp (stL wi) s (stL wi).length 0 with h3 | h3
      · rw [h3, if_neg (fun q => absurd q.2.2 (by decide))]
        rfl
      · rw [h3, if_pos ⟨h1, h2, rfl⟩]
    · rw [if_neg (fun q => h2 (pz_ninj (by omega) (by omega) q)), if_neg (fun q => h2 q.2.1)]
  · rw [if_neg (fun (q : nI (pkind (ptok (fun j => (tp j).toInt) n s).1) = (1 : Int32)) => h1 ((pkind_1 hk).mp (pz_ninj (b := 1) (by omega) (by omega) q))), if_neg (fun q => h1 q.1)]
