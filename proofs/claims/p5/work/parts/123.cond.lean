theorem z32 : (0 : Int32).toInt = 0 := by decide
theorem z64 : (0 : Int64).toInt = 0 := by decide
theorem o64 : (1 : Int64).toInt = 1 := by decide
theorem nI_sub1 {m : Nat} (hm : m ≤ 100) : (nI m - (1 : Int32)).toInt = (m : Int) - 1 := by
  sorry
theorem dx_hasPlace {m : Nat} (hm : m ≤ 100) (p : Int32) : fX11_hasPlace (nI m) p = if 0 ≤ p.toInt ∧ p.toInt < (m : Int) then 1 else 0 := by
  sorry
theorem dr_isPlace {mi : Nat → Int32} {m : Nat} (h : mi 7 = nI m) (hm : m ≤ 100) (p : Int32) : fX12_isPlace mi p = if 0 ≤ p.toInt ∧ p.toInt < (m : Int) then 1 else 0 := by
  sorry
theorem dx_hasReport {m : Nat} (hm : m ≤ 100) (p : Int32) : fX11_hasReport (nI m) p = if 0 ≤ p.toInt ∧ p.toInt < (m : Int) then 1 else 0 := by
  sorry
theorem dr_isReport {mi : Nat → Int32} {m : Nat} (h : mi 10 = nI m) (hm : m ≤ 100) (p : Int32) : fX12_isReport mi p = if 0 ≤ p.toInt ∧ p.toInt < (m : Int) then 1 else 0 := by
  sorry
theorem dx_hasDeed {m : Nat} (hm : m ≤ 100) (p : Int32) : fX11_hasDeed (nI m) p = if 0 ≤ p.toInt ∧ p.toInt < (m : Int) then 1 else 0 := by
  sorry
theorem dr_isDeed {mi : Nat → Int32} {m : Nat} (h : mi 17 = nI m) (hm : m ≤ 100) (p : Int32) : fX12_isDeed mi p = if 0 ≤ p.toInt ∧ p.toInt < (m : Int) then 1 else 0 := by
  sorry
theorem dx_told (mo : Int32) : fX11_isTold mo = if 0 < mo.toInt then 1 else 0 := by
  sorry
theorem dx_month (mo p a b : Int32) : fX11_hasMonth mo p a b = if 0 < mo.toInt ∧ a.toInt ≤ p.toInt ∧ p.toInt ≤ b.toInt then 1 else 0 := by
  sorry
theorem dx_time (mo p : Int32) : fX11_hasTime mo p = if 0 < mo.toInt ∧ 0 ≤ p.toInt ∧ p.toInt ≤ 999 then 1 else 0 := by
  sorry
theorem dr_in (p : Int32) (a b : Int64) : fX12_in p.toInt64 a b = if a.toInt ≤ p.toInt ∧ p.toInt ≤ b.toInt then 1 else 0 := by
  sorry
theorem dr_time (mi : Nat → Int32) (p : Int32) : fX12_isTime mi p = if 0 < (mi 3).toInt ∧ 0 ≤ p.toInt ∧ p.toInt ≤ 999 then 1 else 0 := by
  sorry
theorem clampI {p : Int32} {m : Nat} (h : 0 ≤ p.toInt ∧ p.toInt < (m : Int)) : p.toNatClampNeg < m ∧ p = nI p.toNatClampNeg := by
  sorry
