theorem pr_in64 (a b c : Int64) : fX12_in a b c = if b.toInt ≤ a.toInt ∧ a.toInt ≤ c.toInt then 1 else 0 := by
  sorry
theorem pr_in (a b c : Int32) : fX12_in a.toInt64 b.toInt64 c.toInt64 = if b.toInt ≤ a.toInt ∧ a.toInt ≤ c.toInt then 1 else 0 := by
  sorry
theorem pr_in1 {a b c : Int32} (h : b.toInt ≤ a.toInt ∧ a.toInt ≤ c.toInt) : fX12_in a.toInt64 b.toInt64 c.toInt64 = 1 := by rw [pr_in, if_pos h]
theorem pr_in0 {a b c : Int32} (h : ¬ (b.toInt ≤ a.toInt ∧ a.toInt ≤ c.toInt)) : fX12_in a.toInt64 b.toInt64 c.toInt64 = 0 := by rw [pr_in, if_neg h]
theorem pr_isAt1 {m : Nat → Int32} {tp : Nat → Int32} {n e : Nat} (h26 : m 26 = nI n) (h29 : m 29 = nI e) (hn : n < 2147483648) (he : e < 2147483648) (lo hi : Int32) (h : e < n ∧ lo.toInt ≤ (tp e).toInt ∧ (tp e).toInt ≤ hi.toInt) : fX12_isAt m tp lo hi = 1 := by
  sorry
theorem pr_isAt0 {m : Nat → Int32} {tp : Nat → Int32} {n e : Nat} (h26 : m 26 = nI n) (h29 : m 29 = nI e) (hn : n < 2147483648) (he : e < 2147483648) (lo hi : Int32) (h : ¬ (e < n ∧ lo.toInt ≤ (tp e).toInt ∧ (tp e).toInt ≤ hi.toInt)) : fX12_isAt m tp lo hi = 0 := by
  sorry
def pvalR (t : Nat → Int) : Nat → Nat → Int → Int
  | 0, _, v => v
  | k + 1, e, v => if cD (t e) = true then pvalR t k (e + 1) (min 100000 (10 * v + t e - 48)) else v
theorem pvalR_0 (t : Nat → Int) (e : Nat) (v : Int) : pvalR t 0 e v = v := rfl
theorem pvalR_s (t : Nat → Int) (k e : Nat) (v : Int) : pvalR t (k + 1) e v = if cD (t e) = true then pvalR t k (e + 1) (min 100000 (10 * v + t e - 48)) else v := rfl
theorem prun_0 (P : Nat → Bool) (p : Nat) : prun P 0 p = p := rfl
theorem pr_next3 {mi tp : Nat → Int32} {n : Nat} (hn : n ≤ 1600) (h26 : mi 26 = nI n) : ∀ (k e z : Nat) (b t v : Int32), e + k = n → k < z → 0 ≤ v.toInt → v.toInt ≤ 100000 → ∃ w : Int32, (lfX12_next mi tp z).2.2 (nI e) b t v = (nI (prun (fun j => cD (tp j).toInt) k e), b, t, w) ∧ w.toInt = pvalR (fun j => (tp j).toInt) k e v.toInt := by
  sorry
theorem pr_next2 {mi tp : Nat → Int32} {n : Nat} (hn : n ≤ 1600) (h26 : mi 26 = nI n) : ∀ (k e z : Nat) (b t v : Int32), e + k = n → k < z → (lfX12_next mi tp z).2.1 (nI e) b t v = (nI (prun (fun j => cL (tp j).toInt) k e), b, t, v) := by
  sorry
def pkind (k : Nat) : Nat := if k = 0 then 0 else if k = 1 then 4 else if k = 2 then 1 else if k = 3 then 2 else 3
def pvalT (b : Nat → Int) (n s : Nat) : Int := if s < n ∧ cL (b s) = false ∧ cD (b s) = true then pvalR b (n - s) s 0 else 0
theorem pr_next1 {mi tp : Nat → Int32} {n : Nat} (hn : n ≤ 1600) (h26 : mi 26 = nI n) : ∀ (k s z : Nat), s + k = n → n + k + 1 < z → ∃ w : Int32, (lfX12_next mi tp z).1 (nI s) = (nI (ptok (fun j => (tp j).toInt) n (prun (fun j => cB (tp j).toInt) k s)).2, nI (prun (fun j => cB (tp j).toInt) k s), nI (pkind (ptok (fun j => (tp j).toInt) n (prun (fun j => cB (tp j).toInt) k s)).1), w) ∧ w.toInt = pvalT (fun j => (tp j).toInt) n (prun (fun j => cB (tp j).toInt) k s) := by
  sorry
theorem pr_next {mi tp : Nat → Int32} {n p : Nat} (hn : n ≤ 1600) (hp : p ≤ n) (h26 : mi 26 = nI n) (h29 : mi 29 = nI p) : ∃ w : Int32, fX12_next mi tp = (nI (ptok (fun j => (tp j).toInt) n (prun (fun j => cB (tp j).toInt) (n - p) p)).2, nI (prun (fun j => cB (tp j).toInt) (n - p) p), nI (pkind (ptok (fun j => (tp j).toInt) n (prun (fun j => cB (tp j).toInt) (n - p) p)).1), w) ∧ w.toInt = pvalT (fun j => (tp j).toInt) n (prun (fun j => cB (tp j).toInt) (n - p) p) := by
  sorry
