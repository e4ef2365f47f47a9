theorem pz_nsub {a b : Nat} (h : b ≤ a) (ha : a < 2147483648) : nI a - nI b = nI (a - b) := by
  sorry
theorem pz_ninj {a b : Nat} (ha : a < 2147483648) (hb : b < 2147483648) (h : nI a = nI b) : a = b := by
  sorry
theorem ptok_kind (b : Nat → Int) (n s : Nat) : (ptok b n s).1 ≤ 4 := by
  sorry
def pwd (f : Nat → Int32) (L : List Int32) (s : Nat) : Nat → Nat → Int32
  | 0, _ => 1
  | k + 1, i => if f (s + i) = (L.getD i 0 &&& 255) then pwd f L s k (i + 1) else 0
def aIs (f : Nat → Int32) (n s : Nat) (L : List Int32) : Bool := decide ((ptok (fun j => (f j).toInt) n s).1 = 2 ∧ (ptok (fun j => (f j).toInt) n s).2 - s = L.length ∧ pwd f L s L.length 0 = 1)
theorem pwd_0 (f : Nat → Int32) (L : List Int32) (s i : Nat) : pwd f L s 0 i = 1 := rfl
theorem pwd_01 (f : Nat → Int32) (L : List Int32) (s : Nat) : ∀ k i : Nat, pwd f L s k i = 0 ∨ pwd f L s k i = 1 := by
  sorry
theorem px_wordL {tok en : Int32} {bt : Nat → Int32} {n s wi : Nat} (hn : n ≤ 1600) (hs : s + (stL wi).length ≤ n) : ∀ k i z : Nat, i + k = (stL wi).length → k < z → lfX6_isWord tok (nI s) en (nI n) bt wi z (nI i) = pwd bt (stL wi) s k i := by
  sorry
theorem px_isWord {bt : Nat → Int32} {n s wi : Nat} (hn : n ≤ 1600) (hs : s ≤ n) (hw : (stL wi).length ≤ 7) : fX6_isWord (nI (ptok (fun j => (bt j).toInt) n s).1) (nI s) (nI (ptok (fun j => (bt j).toInt) n s).2) (nI n) bt wi = if aIs bt n s (stL wi) = true then 1 else 0 := by
  sorry
theorem pr_wordL0 {mi tp : Nat → Int32} {wi : Nat} (z : Nat) (hz : 0 < z) : lfX12_isWord mi tp wi z 0 0 = 0 := by
  sorry
theorem pr_wordL {mi tp : Nat → Int32} {n s wi : Nat} (hn : n ≤ 1600) (h30 : mi 30 = nI s) (hs : s + (stL wi).length ≤ n) : ∀ k i z : Nat, i + k = (stL wi).length → k + 1 < z → lfX12_isWord mi tp wi z 1 (nI i) = pwd tp (stL wi) s k i := by
  sorry
theorem pkind_1 {k : Nat} (h : k ≤ 4) : pkind k = 1 ↔ k = 2 := by
  sorry
theorem pkind_le {k : Nat} (h : k ≤ 4) : pkind k ≤ 4 := by
  sorry
theorem pr_isWord {mi tp : Nat → Int32} {n s wi : Nat} (hn : n ≤ 1600) (hs : s ≤ n) (hw : (stL wi).length ≤ 7) (h29 : mi 29 = nI (ptok (fun j => (tp j).toInt) n s).2) (h30 : mi 30 = nI s) (h31 : mi 31 = nI (pkind (ptok (fun j => (tp j).toInt) n s).1)) : fX12_isWord mi tp wi = if aIs tp n s (stL wi) = true then 1 else 0 := by
  sorry
