def TR (n : Nat) (bt tp : Nat → Int32) : Prop := ∀ j, j < n → -128 ≤ (bt j).toInt ∧ (bt j).toInt ≤ 127 ∧ ((0 ≤ (bt j).toInt ∧ (tp j).toInt = (bt j).toInt) ∨ ((bt j).toInt < 0 ∧ (tp j).toInt = (bt j).toInt + 256))
theorem tr_L {n : Nat} {bt tp : Nat → Int32} (h : TR n bt tp) {j : Nat} (hj : j < n) : cL (tp j).toInt = cL (bt j).toInt := by
  sorry
theorem tr_D {n : Nat} {bt tp : Nat → Int32} (h : TR n bt tp) {j : Nat} (hj : j < n) : cD (tp j).toInt = cD (bt j).toInt := by
  sorry
theorem tr_B {n : Nat} {bt tp : Nat → Int32} (h : TR n bt tp) {j : Nat} (hj : j < n) : cB (tp j).toInt = cB (bt j).toInt := by
  sorry
theorem tr_tok {n s : Nat} {bt tp : Nat → Int32} (h : TR n bt tp) : ptok (fun j => (tp j).toInt) n s = ptok (fun j => (bt j).toInt) n s := by
  sorry
theorem tr_valR {n : Nat} {bt tp : Nat → Int32} (h : TR n bt tp) : ∀ (k s : Nat) (v : Int), s + k ≤ n → pvalR (fun j => (tp j).toInt) k s v = pvalR (fun j => (bt j).toInt) k s v := by
  sorry
theorem tr_val {n s : Nat} {bt tp : Nat → Int32} (h : TR n bt tp) : pvalT (fun j => (tp j).toInt) n s = pvalT (fun j => (bt j).toInt) n s := by
  sorry
theorem prun_all (P : Nat → Bool) : ∀ k p j : Nat, p ≤ j → j < prun P k p → P j = true := by
  sorry
theorem ptok_2 {b : Nat → Int} {n s : Nat} (h : (ptok b n s).1 = 2) : s < n ∧ (ptok b n s).2 = prun (fun j => cL (b j)) (n - s) s := by
  sorry
theorem tr_pwd {n s : Nat} {bt tp : Nat → Int32} (h : TR n bt tp) (L : List Int32) (hL : ∀ j, s ≤ j → j < s + L.length → j < n ∧ cL (bt j).toInt = true) : ∀ k i : Nat, i + k = L.length → pwd tp L s k i = pwd bt L s k i := by
  sorry
theorem tr_is {n s : Nat} {bt tp : Nat → Int32} (h : TR n bt tp) (L : List Int32) : aIs tp n s L = aIs bt n s L := by
  sorry
theorem tr_next {n s : Nat} {bt tp : Nat → Int32} (h : TR n bt tp) : aNext (fun j => (tp j).toInt) n s = aNext (fun j => (bt j).toInt) n s := by
  sorry
theorem tr_step {n : Nat} {bt tp : Nat → Int32} (h : TR n bt tp) (a : aS) : aStep (fun j => (tp j).toInt) n a = aStep (fun j => (bt j).toInt) n a := by
  sorry
theorem tr_num {n : Nat} {bt tp : Nat → Int32} (h : TR n bt tp) (lo hi : Int) (a : aS) : aNum (fun j => (tp j).toInt) n lo hi a = aNum (fun j => (bt j).toInt) n lo hi a := by
  sorry
theorem tr_RR {n : Nat} {bt tp : Nat → Int32} (h : TR n bt tp) (a : aS) (mi : Nat → Int32) : aRR (fun j => (tp j).toInt) n a mi ↔ aRR (fun j => (bt j).toInt) n a mi := by
  sorry
