theorem kp_ge {a b : Nat} (h : a ≤ b) (hb : b < 2147483648) : nI a ≤ nI b := nI_le h hb
def kput (k : Nat → Int32) (p n : Nat) (f : Nat → Int32) : Nat → Int32 := fun j => if p ≤ j ∧ j < p + n then f (j - p) else k j
theorem kput_in {k f : Nat → Int32} {p n i : Nat} (h : i < n) : kput k p n f (p + i) = f i := by
  sorry
theorem kput_lt {k f : Nat → Int32} {p n j : Nat} (h : j < p) : kput k p n f j = k j := if_neg (by omega)
theorem kput_s (k f : Nat → Int32) (p i : Nat) : upd (kput k p i f) (p + i) (f i) = kput k p (i + 1) f := by
  sorry
theorem kput_0 (k f : Nat → Int32) (p : Nat) : kput k p 0 f = k := by
  sorry
def rget (k : Nat → Int32) (p n : Nat) (f : Nat → Int32) : Nat → Int32 := fun j => if j < n then k (p + j) else f j
theorem rget_in {k f : Nat → Int32} {p n i : Nat} (h : i < n) : rget k p n f i = k (p + i) := if_pos h
theorem rget_s (k f : Nat → Int32) (p i : Nat) : upd (rget k p i f) i (k (p + i)) = rget k p (i + 1) f := by
  sorry
theorem rget_0 (k f : Nat → Int32) (p : Nat) : rget k p 0 f = f := by
  sorry
theorem pmv_k {m kept : Nat → Int32} {x : Int32} {p : Nat} (h : ¬ m 24 = 0) (h23 : m 23 = nI p) (hp : p < 2147483648) : fX12_moves m kept x = (x, nI (p + 1), upd kept p x) := by
  sorry
theorem pmv_r {m kept : Nat → Int32} {x : Int32} {p : Nat} (h : m 24 = 0) (h23 : m 23 = nI p) (hp : p < 2147483648) : fX12_moves m kept x = (kept p, nI (p + 1), kept) := by
  sorry
theorem row_k6L {m kept f : Nat → Int32} {p : Nat} (h : ¬ m 24 = 0) (hp : p < 1000000) : ∀ (k i z : Nat), i + k = 6 → k < z → lfX12_movesRow m kept f z (nI i) (nI (p + i)) (kput kept p i f) f = (nI (p + 6), kput kept p 6 f, f) := by
  sorry
theorem row_k6 {m kept f : Nat → Int32} {p : Nat} (h : ¬ m 24 = 0) (h23 : m 23 = nI p) (hp : p < 1000000) : fX12_movesRow m kept f = (nI (p + 6), kput kept p 6 f, f) := by
  sorry
theorem row_r6L {m kept f : Nat → Int32} {p : Nat} (h : m 24 = 0) (hp : p < 1000000) : ∀ (k i z : Nat), i + k = 6 → k < z → lfX12_movesRow_sX12_movesRowR6 m kept f z (nI i) (nI (p + i))  (rget kept p i f) = (nI (p + 6), kept, rget kept p 6 f) := by
  sorry
theorem row_r6 {m kept f : Nat → Int32} {p : Nat} (h : m 24 = 0) (h23 : m 23 = nI p) (hp : p < 1000000) : fX12_movesRow_sX12_movesRowR6 m kept f = (nI (p + 6), kept, rget kept p 6 f) := by
  sorry
theorem row_k36L {m kept f : Nat → Int32} {p : Nat} (h : ¬ m 24 = 0) (hp : p < 1000000) : ∀ (k i z : Nat), i + k = 36 → k < z → lfX12_movesRow_sX12_movesRowK36 m kept f z (nI i) (nI (p + i)) (kput kept p i f) f = (nI (p + 36), kput kept p 36 f, f) := by
  sorry
theorem row_k36 {m kept f : Nat → Int32} {p : Nat} (h : ¬ m 24 = 0) (h23 : m 23 = nI p) (hp : p < 1000000) : fX12_movesRow_sX12_movesRowK36 m kept f = (nI (p + 36), kput kept p 36 f, f) := by
  sorry
theorem row_r36L {m kept f : Nat → Int32} {p : Nat} (h : m 24 = 0) (hp : p < 1000000) : ∀ (k i z : Nat), i + k = 36 → k < z → lfX12_movesRow_sX12_movesRowR36 m kept f z (nI i) (nI (p + i))  (rget kept p i f) = (nI (p + 36), kept, rget kept p 36 f) := by
  sorry
theorem row_r36 {m kept f : Nat → Int32} {p : Nat} (h : m 24 = 0) (h23 : m 23 = nI p) (hp : p < 1000000) : fX12_movesRow_sX12_movesRowR36 m kept f = (nI (p + 36), kept, rget kept p 36 f) := by
  sorry
theorem row_k24L {m kept f : Nat → Int32} {p : Nat} (h : ¬ m 24 = 0) (hp : p < 1000000) : ∀ (k i z : Nat), i + k = 24 → k < z → lfX12_movesRow_sX12_movesRowK24 m kept f z (nI i) (nI (p + i)) (kput kept p i f) f = (nI (p + 24), kput kept p 24 f, f) := by
  sorry
theorem row_k24 {m kept f : Nat → Int32} {p : Nat} (h : ¬ m 24 = 0) (h23 : m 23 = nI p) (hp : p < 1000000) : fX12_movesRow_sX12_movesRowK24 m kept f = (nI (p + 24), kput kept p 24 f, f) := by
  sorry
theorem row_r24L {m kept f : Nat → Int32} {p : Nat} (h : m 24 = 0) (hp : p < 1000000) : ∀ (k i z : Nat), i + k = 24 → k < z → lfX12_movesRow_sX12_movesRowR24 m kept f z (nI i) (nI (p + i))  (rget kept p i f) = (nI (p + 24), kept, rget kept p 24 f) := by
  sorry
theorem row_r24 {m kept f : Nat → Int32} {p : Nat} (h : m 24 = 0) (h23 : m 23 = nI p) (hp : p < 1000000) : fX12_movesRow_sX12_movesRowR24 m kept f = (nI (p + 24), kept, rget kept p 24 f) := by
  sorry
theorem row_k8L {m kept f : Nat → Int32} {p : Nat} (h : ¬ m 24 = 0) (hp : p < 1000000) : ∀ (k i z : Nat), i + k = 8 → k < z → lfX12_movesRow_sX12_movesRowK8 m kept f z (nI i) (nI (p + i)) (kput kept p i f) f = (nI (p + 8), kput kept p 8 f, f) := by
  sorry
theorem row_k8 {m kept f : Nat → Int32} {p : Nat} (h : ¬ m 24 = 0) (h23 : m 23 = nI p) (hp : p < 1000000) : fX12_movesRow_sX12_movesRowK8 m kept f = (nI (p + 8), kput kept p 8 f, f) := by
  sorry
theorem row_r8L {m kept f : Nat → Int32} {p : Nat} (h : m 24 = 0) (hp : p < 1000000) : ∀ (k i z : Nat), i + k = 8 → k < z → lfX12_movesRow_sX12_movesRowR8 m kept f z (nI i) (nI (p + i))  (rget kept p i f) = (nI (p + 8), kept, rget kept p 8 f) := by
  sorry
theorem row_r8 {m kept f : Nat → Int32} {p : Nat} (h : m 24 = 0) (h23 : m 23 = nI p) (hp : p < 1000000) : fX12_movesRow_sX12_movesRowR8 m kept f = (nI (p + 8), kept, rget kept p 8 f) := by
  sorry
