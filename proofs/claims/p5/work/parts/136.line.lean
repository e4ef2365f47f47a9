theorem ia_eq {M n m : Nat} {tr nm pl kd mo dy : Nat → Nat} {mi pn rp rm rd rk ft fl : Nat → Int32} (h : RW M n m tr nm pl kd mo dy) (hm6 : m ≤ 6) (hM : M ≤ 24) (hn : n ≤ 24) (hN : NM m pn fl) (hP : ∀ p, p < m → fX12_trustOf mi ft (nI p) = nI (tr p) ∧ pn p = nI (nm p)) (hR : ∀ j, j < n → rp j = nI (pl j) ∧ rk j = nI (kd j) ∧ rm j = nI (mo j) ∧ rd j = nI (dy j)) {r q : Nat} (hr : r < n) (hq : q < n) : fX12_isAhead mi rp rm rd rk ft fl (nI r) (nI q) = if ltr tr nm pl mo dy kd r q = true then 1 else 0 := by
  obtain ⟨h1, h2, h3⟩ := h
  obtain ⟨a1, a2, a3, a4, a5⟩ := h3 r hr
  obtain ⟨b1, b2, b3, b4, b5⟩ := h3 q hq
  obtain ⟨c1, c2, c3, c4⟩ := hR r hr
  obtain ⟨d1, d2, d3, d4⟩ := hR q hq
  obtain ⟨e1, e2⟩ := hP _ a1
  obtain ⟨f1, f2⟩ := hP _ b1
  obtain ⟨g1, g2⟩ := h1 _ a1
  obtain ⟨i1, i2⟩ := h1 _ b1
  have hna := na_eq hm6 hN a1 b1
  rw [e2, f2, nI_toInt (by omega), nI_toInt (by omega)] at hna
  unfold fX12_isAhead bfX12_isAhead_48 bfX12_isAhead_98 bfX12_isAhead_134 bfX12_isAhead_183
  simp only [cal_b]
  rw [nI_clamp (show r < 2 ^ 31 by omega), nI_clamp (show q < 2 ^ 31 by omega), c1, c2, c3, c4, d1, d2, d3, d4, e1, f1, hna]
  have key : ∀ (P : Prop) (_ : Decidable P) (x : Int32), (P → x = 1) → (¬ P → x = 0) → (P ↔ ltr tr nm pl mo dy kd r q = true) → x = if ltr tr nm pl mo dy kd r q = true then 1 else 0 := by
    intro P _ x q1 q2 q3
    by_cases hp : P
    · rw [if_pos (q3.1 hp), q1 hp]
    · rw [if_neg (fun q => hp (q3.2 q)), q2 hp]
  have hlt : ltr tr nm pl mo dy kd r q = true ↔ tnN tr nm pl mo dy kd r < tnN tr nm pl mo dy kd q := by
    unfold ltr
    rw [decide_eq_true_eq]
  unfold tnN at hlt
  by_cases t0 : tr (pl r) = tr (pl q)
  · rw [if_pos (by rw [t0])]
    by_cases t1 : pl r = pl q
    · rw [if_pos (by rw [t1])]
      rw [t1] at hlt
      by_cases t2 : mo r = mo q
      · rw [if_pos (by rw [t2])]
        by_cases t3 : dy r = dy q
        · rw [if_pos (by rw [t3])]
          by_cases t4 : kd r = kd q
          · rw [if_pos (by rw [t4])]
            refine key (r < q) inferInstance _ (fun h => if_neg (fun w => ?_)) (fun h => if_pos ?_) (by rw [hlt]; omega)
            · have := (nI_leI (by omega) (by omega)).1 w
              omega
            · exact nI_le (by omega) (by omega)
          · rw [if_neg (fun w => t4 ((nI_eq (by omega) (by omega)).1 w))]
            refine key (kd r < kd q) inferInstance _ (fun h => if_neg (fun w => ?_)) (fun h => if_pos ?_) (by rw [hlt]; omega)
            · have := (nI_leI (by omega) (by omega)).1 w
              omega
            · exact nI_le (by omega) (by omega)
        · rw [if_neg (fun w => t3 ((nI_eq (by omega) (by omega)).1 w))]
          refine key (dy r < dy q) inferInstance _ (fun h => if_neg (fun w => ?_)) (fun h => if_pos ?_) (by rw [hlt]; omega)
          · have := (nI_leI (by omega) (by omega)).1 w
            omega
          · exact nI_le (by omega) (by omega)
      · rw [if_neg (fun w => t2 ((nI_eq (by omega) (by omega)).1 w))]
        refine key (mo r < mo q) inferInstance _ (fun h => if_neg (fun w => ?_)) (fun h => if_pos ?_) (by rw [hlt]; omega)
        · have := (nI_leI (by omega) (by omega)).1 w
          omega
        · exact nI_le (by omega) (by omega)
    · rw [if_neg (fun w => t1 ((nI_eq (by omega) (by omega)).1 w))]
      have t5 : ¬ nm (pl r) = nm (pl q) := fun w => t1 (h2 _ _ a1 b1 w)
      rw [t0] at hlt
      refine key (nm (pl r) < nm (pl q)) inferInstance _ (fun h => if_pos (by omega)) (fun h => if_neg (by omega)) (by rw [hlt]; omega)
  · rw [if_neg (fun w => t0 ((nI_eq (by omega) (by omega)).1 w))]
    refine key (tr (pl q) < tr (pl r)) inferInstance _ (fun h => if_neg (fun w => ?_)) (fun h => if_pos ?_) (by rw [hlt]; omega)
    · have := (nI_leI (by omega) (by omega)).1 w
      omega
    · exact nI_le (by omega) (by omega)
theorem cu_s (fve fqu : Nat → Int32) (ftu : Nat → Int64) (n : Int32) (pn pt rp rk rm rd rn rs : Nat → Int32) (t : Int32) (z : Nat) (v w : Int32) (a b : Nat → Int32) (c : Nat → Int64) : lfX1_lineUp fve fqu ftu n pn pt rp rk rm rd rn rs t (z + 1) v w a b c = dfX1_lineUp_7 fve fqu ftu n pn pt rp rk rm rd rn rs t (lfX1_lineUp fve fqu ftu n pn pt rp rk rm rd rn rs t z) v w a b c := rfl
theorem cu_L {fve fqu : Nat → Int32} {ftu : Nat → Int64} {n : Nat} {pn pt rp rk rm rd rn rs : Nat → Int32} {t : Int32} {lt : Nat → Nat → Bool} {K : Nat → Bool} {tn : Nat → Nat} (hn : n ≤ 24) (hK : ∀ j, j < n → (K j = true ↔ ¬ fX7_isKnownBy (rn j) (rs j) t = 0)) (hT : ∀ j, j < n → fX1_turnOf pn pt rp rk rm rd (nI j) = lN (tn j)) (hC : ∀ r q, r < n → q < n → (lN (tn q) ≤ lN (tn r) ↔ ¬ lt r q = true)) : ∀ (k j z : Nat) (ve qu : Nat → Int32) (tu : Nat → Int64), j + k = n → k < z → (∀ i, i < j → ve i = 3) → Rg qu (lin lt K j) → Tg tn tu (lin lt K j) → ∃ (ve' qu' : Nat → Int32) (tu' : Nat → Int64), lfX1_lineUp fve fqu ftu (nI n) pn pt rp rk rm rd rn rs t z (nI j) (nI (lin lt K j).length) ve qu tu = (nI (lin lt K n).length, ve', qu', tu') ∧ (∀ i, i < n → ve' i = 3) ∧ Rg qu' (lin lt K n) ∧ Tg tn tu' (lin lt K n) := by
  intro k
  induction k with
  | zero =>
    intro j z ve qu tu hj hz hve hqu htu
    obtain ⟨z, rfl⟩ : ∃ y, z = y + 1 := ⟨z - 1, by omega⟩
    have e : j = n := by omega
    subst e
    refine ⟨ve, qu, tu, ?_, hve, hqu, htu⟩
    rw [cu_s]
    unfold dfX1_lineUp_7
    rw [if_pos (Int32.le_refl _)]
  | succ k ih =>
    intro j z ve qu tu hj hz hve hqu htu
    obtain ⟨z, rfl⟩ : ∃ y, z = y + 1 := ⟨z - 1, by omega⟩
    have hlen := lin_len (lt := lt) (K := K) j
    have hve' : ∀ i, i < j + 1 → upd ve j (3 : Int32) i = 3 := by
      intro i hi
      by_cases e : i = j
      · exact if_pos e
      · rw [show upd ve j (3 : Int32) i = ve i from if_neg e]
        exact hve i (by omega)
    rw [cu_s]
    unfold dfX1_lineUp_7 bfX1_lineUp_45
    rw [if_neg (fun w => by have := (nI_leI (by omega) (by omega)).1 w; omega), nI_clamp (show j < 2 ^ 31 by omega), cal_b]
    by_cases hk : K j = true
    · rw [if_neg ((hK j (by omega)).1 hk), cal_b, cal_b, hT j (by omega)]
      obtain ⟨w', u', e1, e2, e3, _⟩ := ci_L (a := nI (lin lt K j).length) (f := qu) (g := tu) (lt := lt) (tn := tn) (r := j) (lin lt K j) 1000000000 qu tu (by omega) (fun q hq => hC j q (by omega) (by have := (lin_mem hq).1; omega)) hqu htu (by omega)
      have e4 : fX1_insert (nI (lin lt K j).length) qu tu (nI j) (lN (tn j)) = (nI (lin lt K j).length + (1 : Int32), w', u') := by
        unfold fX1_insert
        exact e1
      rw [e4, nI_1]
      have e5 : lin lt K (j + 1) = ins lt j (lin lt K j) := by rw [lin, if_pos hk]
      have e6 : nI (lin lt K j).length + (1 : Int32) = nI (lin lt K (j + 1)).length := by rw [e5, ins_len, nI_1]
      show ∃ ve' qu' tu', lfX1_lineUp fve fqu ftu (nI n) pn pt rp rk rm rd rn rs t z (nI (j + 1)) (nI (lin lt K j).length + (1 : Int32)) _ w' u' = _ ∧ _
      rw [e6]
      exact ih (j + 1) z _ w' u' (by omega) (by omega) hve' (by rw [e5]; exact e2) (by rw [e5]; exact e3)
    · have e0 : fX7_isKnownBy (rn j) (rs j) t = 0 := Decidable.byContradiction (fun w => hk ((hK j (by omega)).2 w))
      have e5 : lin lt K (j + 1) = lin lt K j := by rw [lin, if_neg hk]
      rw [if_pos e0, nI_1]
      rw [← e5]
      exact ih (j + 1) z _ qu tu (by omega) (by omega) hve' (by rw [e5]; exact hqu) (by rw [e5]; exact htu)
theorem cu_eq {fve fqu : Nat → Int32} {ftu : Nat → Int64} {M n m : Nat} {tr nm pl kd mo dy : Nat → Nat} {pn pt rp rk rm rd rn rs : Nat → Int32} {t : Int32} {K : Nat → Bool} (h : RW M n m tr nm pl kd mo dy) (hm6 : m ≤ 6) (hM : M ≤ 24) (hn : n ≤ 24) (hP : ∀ p, p < m → pt p = nI (tr p) ∧ pn p = nI (nm p)) (hR : ∀ j, j < n → rp j = nI (pl j) ∧ rk j = nI (kd j) ∧ rm j = nI (mo j) ∧ rd j = nI (dy j)) (hK : ∀ j, j < n → (K j = true ↔ ¬ fX7_isKnownBy (rn j) (rs j) t = 0)) : ∃ (ve' qu' : Nat → Int32) (tu' : Nat → Int64), fX1_lineUp fve fqu ftu (nI n) pn pt rp rk rm rd rn rs t = (nI (lin (ltr tr nm pl mo dy kd) K n).length, ve', qu', tu') ∧ (∀ i, i < n → ve' i = 3) ∧ Rg qu' (lin (ltr tr nm pl mo dy kd) K n) := by
  obtain ⟨ve', qu', tu', e1, e2, e3, _⟩ := cu_L (fve := fve) (fqu := fqu) (ftu := ftu) (lt := ltr tr nm pl mo dy kd) (tn := tnN tr nm pl mo dy kd) hn hK (fun j hj => ct_turn h hm6 hM hn hP hR hj) (fun r q hr hq => tn_cmp h hM hn hr hq) n 0 1000000000 fve fqu ftu (by omega) (by omega) (fun i hi => absurd hi (by omega)) trivial trivial
  refine ⟨ve', qu', tu', ?_, e2, e3⟩
  unfold fX1_lineUp
  rw [lin, List.length_nil, nI_0] at e1
  exact e1
theorem lr_s1 (mi fv fr fs fn fp fm fd fk ft fl : Nat → Int32) (t : Int32) (z : Nat) (v w : Int32) (a b : Nat → Int32) : (lfX12_laysRow mi fv fr fs fn fp fm fd fk ft fl t (z + 1)).1 v w a b = dfX12_laysRow_7 mi fv fr fs fn fp fm fd fk ft fl t (lfX12_laysRow mi fv fr fs fn fp fm fd fk ft fl t z) v w a b := rfl
theorem lr_s2 (mi fv fr fs fn fp fm fd fk ft fl : Nat → Int32) (t : Int32) (z : Nat) (v x w : Int32) (a b : Nat → Int32) : (lfX12_laysRow mi fv fr fs fn fp fm fd fk ft fl t (z + 1)).2 v x w a b = dfX12_laysRow_68 mi fv fr fs fn fp fm fd fk ft fl t (lfX12_laysRow mi fv fr fs fn fp fm fd fk ft fl t z) v x w a b := rfl
theorem lr_in {mi fv fr fs fn fp fm fd fk ft fl : Nat → Int32} {t : Int32} {lt : Nat → Nat → Bool} {r : Nat} (c : Int32) (a : Nat → Int32) : ∀ (l : List Nat) (z : Nat) (w : Nat → Int32), l.length ≤ 24 → (∀ q, q ∈ l → fX12_isAhead (upd mi 41 c) fp fm fd fk ft fl (nI r) (nI q) = if lt r q = true then 1 else 0) → Rg w l → l.length < z → ∃ (z' : Nat) (w' : Nat → Int32), z ≤ z' + l.length + 1 ∧ (lfX12_laysRow mi fv fr fs fn fp fm fd fk ft fl t z).2 (nI r) (nI l.length) c a w = (lfX12_laysRow mi fv fr fs fn fp fm fd fk ft fl t z').1 (nI r + (1 : Int32)) (c + (1 : Int32)) a w' ∧ Rg w' (ins lt r l) ∧ ∀ j, l.length < j → w' j = w j := by
  intro l
  induction l with
  | nil =>
    intro z w h24 hq hw hz
    obtain ⟨z, rfl⟩ : ∃ y, z = y + 1 := ⟨z - 1, by omega⟩
    refine ⟨z, upd w 0 (nI r), by omega, ?_, ⟨if_pos rfl, trivial⟩, fun j hj => if_neg (by rw [List.length_nil] at hj; omega)⟩
    rw [lr_s2]
    unfold dfX12_laysRow_68 bfX12_laysRow_108 bfX12_laysRow_125
    rw [List.length_nil, if_pos (by rw [nI_0]; exact Int32.le_refl 0), nI_clamp (by omega)]
  | cons q l ih =>
    intro z w h24 hq hw hz
    obtain ⟨z, rfl⟩ : ∃ y, z = y + 1 := ⟨z - 1, by omega⟩
    rw [List.length_cons] at h24 hz ⊢
    have hqq := hq q (List.mem_cons.mpr (Or.inl rfl))
    rw [lr_s2]
    unfold dfX12_laysRow_68 bfX12_laysRow_108 bfX12_laysRow_125
    rw [if_neg (nI_nle (by omega) (by omega)), nI_pred, nI_clamp (show l.length < 2 ^ 31 by omega), nI_clamp (show l.length + 1 < 2 ^ 31 by omega), hw.1, cal_b, hqq]
    by_cases hlt : lt r q = true
    · rw [if_pos hlt, if_neg (by decide)]
      have e : nI (l.length + 1) + (-1 : Int32) = nI l.length := by
        rw [show (-1 : Int32) = - (1 : Int32) from rfl, ← Int32.sub_eq_add_neg, nI_pred]
      rw [e]
      obtain ⟨z', w', e0, e1, e2, e4⟩ := ih z (upd w (l.length + 1) (nI q)) (by omega) (fun x hx => hq x (List.mem_cons.mpr (Or.inr hx))) (Rg_cong (fun j hj => if_neg (by omega)) hw.2) (by omega)
      refine ⟨z', w', by omega, e1, ?_, fun j hj => ?_⟩
      · rw [ins, if_pos hlt]
        refine ⟨?_, e2⟩
        rw [ins_len, e4 (l.length + 1) (by omega)]
        exact if_pos rfl
      · rw [e4 j (by omega)]
        exact if_neg (by omega)
    · rw [if_neg hlt, if_pos rfl]
      refine ⟨z, _, by omega, rfl, ?_, fun j hj => if_neg (by omega)⟩
      rw [ins, if_neg hlt]
      refine ⟨if_pos rfl, ?_⟩
      exact Rg_cong (f := w) (fun j hj => if_neg (by rw [List.length_cons] at hj; omega)) hw
noncomputable def kR (mi fs fn fp : Nat → Int32) (t : Int32) (j : Nat) : Bool := decide (¬ fX12_isKnown fs fn (nI j) t = 0 ∧ ¬ nI j = mi 43 ∧ (mi 42 = -1 ∨ fp j = mi 42))
theorem lr_L {mi fv fr fs fn fp fm fd fk ft fl : Nat → Int32} {t : Int32} {lt : Nat → Nat → Bool} {n : Nat} (hn : n ≤ 24) (h10 : mi 10 = nI n) (hA : ∀ c r q, r < n → q < n → fX12_isAhead (upd mi 41 c) fp fm fd fk ft fl (nI r) (nI q) = if lt r q = true then 1 else 0) : ∀ (k j z : Nat) (a w : Nat → Int32), j + k = n → 30 * k < z → (∀ i, i < j → a i = 3) → Rg w (lin lt (kR mi fs fn fp t) j) → ∃ (a' w' : Nat → Int32), (lfX12_laysRow mi fv fr fs fn fp fm fd fk ft fl t z).1 (nI j) (nI (lin lt (kR mi fs fn fp t) j).length) a w = (nI (lin lt (kR mi fs fn fp t) n).length, a', w') ∧ (∀ i, i < n → a' i = 3) ∧ Rg w' (lin lt (kR mi fs fn fp t) n) := by
  intro k
  induction k with
  | zero =>
    intro j z a w hj hz ha hw
    obtain ⟨z, rfl⟩ : ∃ y, z = y + 1 := ⟨z - 1, by omega⟩
    have e : j = n := by omega
    subst e
    refine ⟨a, w, ?_, ha, hw⟩
    rw [lr_s1]
    unfold dfX12_laysRow_7
    rw [if_pos (by rw [h10]; exact Int32.le_refl _)]
  | succ k ih =>
    intro j z a w hj hz ha hw
    obtain ⟨z, rfl⟩ : ∃ y, z = y + 1 := ⟨z - 1, by omega⟩
    have hlen := lin_len (lt := lt) (K := kR mi fs fn fp t) j
    have ha' : ∀ i, i < j + 1 → upd a j (3 : Int32) i = 3 := by
      intro i hi
      by_cases e : i = j
      · exact if_pos e
      · rw [show upd a j (3 : Int32) i = a i from if_neg e]
        exact ha i (by omega)
    rw [lr_s1]
    unfold dfX12_laysRow_7 bfX12_laysRow_125 bfX12_laysRow_63
    rw [if_neg (fun q => by rw [h10] at q; have := (nI_leI (by omega) (by omega)).1 q; omega), nI_clamp (show j < 2 ^ 31 by omega), cal_b]
    have hno : kR mi fs fn fp t j = false → ∃ (a' w' : Nat → Int32), (lfX12_laysRow mi fv fr fs fn fp fm fd fk ft fl t z).1 (nI j + (1 : Int32)) (nI (lin lt (kR mi fs fn fp t) j).length) (upd a j (3 : Int32)) w = (nI (lin lt (kR mi fs fn fp t) n).length, a', w') ∧ (∀ i, i < n → a' i = 3) ∧ Rg w' (lin lt (kR mi fs fn fp t) n) := by
      intro hk
      have e5 : lin lt (kR mi fs fn fp t) (j + 1) = lin lt (kR mi fs fn fp t) j := by rw [lin, if_neg (by rw [hk]; decide)]
      rw [nI_1, ← e5]
      exact ih (j + 1) z _ w (by omega) (by omega) ha' (by rw [e5]; exact hw)
    have hyes : kR mi fs fn fp t j = true → ∃ (a' w' : Nat → Int32), (lfX12_laysRow mi fv fr fs fn fp fm fd fk ft fl t z).2 (nI j) (nI (lin lt (kR mi fs fn fp t) j).length) (nI (lin lt (kR mi fs fn fp t) j).length) (upd a j (3 : Int32)) w = (nI (lin lt (kR mi fs fn fp t) n).length, a', w') ∧ (∀ i, i < n → a' i = 3) ∧ Rg w' (lin lt (kR mi fs fn fp t) n) := by
      intro hk
      have e5 : lin lt (kR mi fs fn fp t) (j + 1) = ins lt j (lin lt (kR mi fs fn fp t) j) := by rw [lin, if_pos hk]
      obtain ⟨z', w', e0, e1, e2, _⟩ := lr_in (mi := mi) (fv := fv) (fr := fr) (fs := fs) (fn := fn) (fp := fp) (fm := fm) (fd := fd) (fk := fk) (ft := ft) (fl := fl) (t := t) (lt := lt) (r := j) (nI (lin lt (kR mi fs fn fp t) j).length) (upd a j (3 : Int32)) (lin lt (kR mi fs fn fp t) j) z w (by omega) (fun q hq => hA _ j q (by omega) (by have := (lin_mem hq).1; omega)) hw (by omega)
      rw [e1, nI_1, nI_1]
      have e6 : (lin lt (kR mi fs fn fp t) j).length + 1 = (lin lt (kR mi fs fn fp t) (j + 1)).length := by rw [e5, ins_len]
      rw [e6]
      exact ih (j + 1) z' _ w' (by omega) (by omega) ha' (by rw [e5]; exact e2)
    by_cases h1 : fX12_isKnown fs fn (nI j) t = 0
    · rw [if_pos h1]
      exact hno (decide_eq_false (fun q => q.1 h1))
    · rw [if_neg h1]
      by_cases h2 : nI j = mi 43
      · rw [if_pos h2]
        exact hno (decide_eq_false (fun q => q.2.1 h2))
      · rw [if_neg h2]
        by_cases h3 : mi 42 = -1
        · rw [if_pos h3]
          exact hyes (decide_eq_true ⟨h1, h2, Or.inl h3⟩)
        · rw [if_neg h3]
          by_cases h4 : fp j = mi 42
          · rw [if_pos h4]
            exact hyes (decide_eq_true ⟨h1, h2, Or.inr h4⟩)
          · rw [if_neg h4]
            exact hno (decide_eq_false (fun q => q.2.2.elim h3 h4))
theorem lr_eq {mi fv fr fs fn fp fm fd fk ft fl : Nat → Int32} {t : Int32} {lt : Nat → Nat → Bool} {n : Nat} (hn : n ≤ 24) (h10 : mi 10 = nI n) (hA : ∀ c r q, r < n → q < n → fX12_isAhead (upd mi 41 c) fp fm fd fk ft fl (nI r) (nI q) = if lt r q = true then 1 else 0) : ∃ (a' w' : Nat → Int32), fX12_laysRow mi fv fr fs fn fp fm fd fk ft fl t = (nI (lin lt (kR mi fs fn fp t) n).length, a', w') ∧ (∀ i, i < n → a' i = 3) ∧ Rg w' (lin lt (kR mi fs fn fp t) n) := by
  obtain ⟨a', w', e1, e2, e3⟩ := lr_L (fv := fv) (fr := fr) hn h10 hA n 0 1000000000 fv fr (by omega) (by omega) (fun i hi => absurd hi (by omega)) trivial
  refine ⟨a', w', ?_, e2, e3⟩
  unfold fX12_laysRow
  rw [lin, List.length_nil, nI_0] at e1
  exact e1
