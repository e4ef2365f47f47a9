theorem un_s (p : Nat → Int32) (z : Nat) (v : Int32) (w : Nat → Int32) : lfX12_unpins p (z + 1) v w = dfX12_unpins_2 p (lfX12_unpins p z) v w := rfl
theorem un_L {p : Nat → Int32} : ∀ (k j z : Nat) (w : Nat → Int32), j + k = 25 → k < z → (∀ i, i < j → w i = -1) → ∀ i, i ≤ 24 → lfX12_unpins p z (nI j) w i = -1 := by
  intro k
  induction k with
  | zero =>
    intro j z w hj hz hw i hi
    obtain ⟨z, rfl⟩ : ∃ y, z = y + 1 := ⟨z - 1, by omega⟩
    rw [un_s]
    unfold dfX12_unpins_2
    rw [if_pos (show (24 : Int32) < nI j from nI_lt (a := 24) (by omega) (by omega))]
    exact hw i (by omega)
  | succ k ih =>
    intro j z w hj hz hw i hi
    obtain ⟨z, rfl⟩ : ∃ y, z = y + 1 := ⟨z - 1, by omega⟩
    rw [un_s]
    unfold dfX12_unpins_2
    rw [if_neg (show ¬ (24 : Int32) < nI j from nI_nlt (a := 24) (by omega) (by omega)), nI_1, nI_clamp (by omega)]
    refine ih (j + 1) z _ (by omega) (by omega) (fun i' hi' => ?_) i hi
    by_cases e : i' = j
    · exact if_pos e
    · rw [show upd w j (-1 : Int32) i' = w i' from if_neg e]
      exact hw i' (by omega)
theorem un_eq (p : Nat → Int32) : pinF (fX12_unpins p) := by
  intro i hi
  unfold fX12_unpins
  rw [← nI_0]
  exact un_L (p := p) 25 0 1000000000 p (by omega) (by omega) (fun i hi => absurd hi (by omega)) i hi
theorem fs_s (a b c : Nat → Int32) (z : Nat) (v x : Int32) (w u : Nat → Int32) : lfX12_frees a b c (z + 1) v x w u = dfX12_frees_7 a b c (lfX12_frees a b c z) v x w u := rfl
theorem fs_L {a b c : Nat → Int32} : ∀ (k j z : Nat) (w u : Nat → Int32), j + k = 25 → k < z → (∀ i, i < j → w i = -1 ∧ u i = 0) → ∃ w' u' : Nat → Int32, lfX12_frees a b c z (nI j) 0 w u = (0, w', u', fX12_unpins c) ∧ ∀ i, i ≤ 24 → w' i = -1 ∧ u' i = 0 := by
  intro k
  induction k with
  | zero =>
    intro j z w u hj hz hw
    obtain ⟨z, rfl⟩ : ∃ y, z = y + 1 := ⟨z - 1, by omega⟩
    refine ⟨w, u, ?_, fun i hi => hw i (by omega)⟩
    rw [fs_s]
    unfold dfX12_frees_7
    rw [if_pos (show (24 : Int32) < nI j from nI_lt (a := 24) (by omega) (by omega)), cal_b]
  | succ k ih =>
    intro j z w u hj hz hw
    obtain ⟨z, rfl⟩ : ∃ y, z = y + 1 := ⟨z - 1, by omega⟩
    rw [fs_s]
    unfold dfX12_frees_7
    rw [if_neg (show ¬ (24 : Int32) < nI j from nI_nlt (a := 24) (by omega) (by omega)), nI_1, nI_clamp (by omega)]
    refine ih (j + 1) z _ _ (by omega) (by omega) (fun i' hi' => ?_)
    by_cases e : i' = j
    · exact ⟨if_pos e, if_pos e⟩
    · rw [show upd w j (-1 : Int32) i' = w i' from if_neg e, show upd u j (0 : Int32) i' = u i' from if_neg e]
      exact hw i' (by omega)
theorem fs_eq (a b c : Nat → Int32) : ∃ w' u' : Nat → Int32, fX12_frees a b c = (0, w', u', fX12_unpins c) ∧ ∀ i, i ≤ 24 → w' i = -1 ∧ u' i = 0 := by
  obtain ⟨w', u', h1, h2⟩ := fs_L (a := a) (b := b) (c := c) 25 0 1000000000 a b (by omega) (by omega) (fun i hi => absurd hi (by omega))
  refine ⟨w', u', ?_, h2⟩
  unfold fX12_frees
  rw [nI_0] at h1
  exact h1
theorem rOK_free {M : Nat} {w u : Nat → Int32} (hM : M ≤ 24) (h : ∀ i, i ≤ 24 → w i = -1 ∧ u i = 0) : rOK M okF w u := by
  intro m hm
  refine ⟨0, by omega, (h m (by omega)).2, Or.inl (h m (by omega)).1, fun a ha => ⟨fun _ => ⟨Or.inl (h m (by omega)).1, by omega⟩, fun _ => rfl⟩⟩
theorem ja_s (a b c d e f g h i j k l m n o : Nat → Int32) (t : Int32) (z : Nat) (x y w : Int32) (p q r s u v : Nat → Int32) : lfX12_judgesAll a b c d e f g h i j k l m n o t (z + 1) x y w p q r s u v = dfX12_judgesAll_11 a b c d e f g h i j k l m n o t (lfX12_judgesAll a b c d e f g h i j k l m n o t z) x y w p q r s u v := rfl
def RT (F L M n : Nat) (hm ms mp : Int32) (kd mo dy : Nat → Nat) (l : List Nat) (br rmn : Int32) (must least pin ve row : Nat → Int32) : Prop :=
  br = 0 ∧ rmn = nI l.length ∧ rOK M (jd F L M hm ms mp kd mo dy l).1 must least ∧ pinF pin ∧ (∀ j, j < n → ve j = nI ((jd F L M hm ms mp kd mo dy l).2 j)) ∧ Rg row l
theorem ja_L {F L M n : Nat} {kd mo dy : Nat → Nat} {l : List Nat} {mi a1 a2 a3 a4 a5 a6 fs fn fp rm rd rk ft fl pin row : Nat → Int32} {t : Int32} (hn : n ≤ 24) (h0 : mi 0 = nI M) (h1 : mi 1 = nI F) (h2 : mi 2 = nI L) (hM : M ≤ 24) (hF : F ≤ 5) (hL : L ≤ 5) (hR : ∀ j, j < n → kd j ≤ 2 ∧ mo j < M ∧ dy j ≤ 999 ∧ rk j = nI (kd j) ∧ rm j = nI (mo j) ∧ rd j = nI (dy j)) (hl : ∀ x, x ∈ l → x < n) (hll : l.length ≤ 24) (hq : Rg row l) (hp : pinF pin) :
    ∀ (k i z : Nat) (must least ways ve : Nat → Int32), i + k = l.length → k < z → (∀ j, j < n → ve j = nI ((jd F L M (mi 4) (mi 5) (mi 6) kd mo dy (l.drop (l.length - i))).2 j)) → rOK M (jd F L M (mi 4) (mi 5) (mi 6) kd mo dy (l.drop (l.length - i))).1 must least →
      ∃ must' least' ways' ve' : Nat → Int32, lfX12_judgesAll mi a1 a2 a3 a4 a5 a6 fs fn fp rm rd rk ft fl t z (nI i) 0 (nI l.length) must least pin ways ve row = (0, nI l.length, must', least', pin, ways', ve', row) ∧ RT F L M n (mi 4) (mi 5) (mi 6) kd mo dy l 0 (nI l.length) must' least' pin ve' row := by
  intro k
  induction k with
  | zero =>
    intro i z must least ways ve hi hz hve hok
    obtain ⟨z, rfl⟩ : ∃ y, z = y + 1 := ⟨z - 1, by omega⟩
    have e : i = l.length := by omega
    subst e
    rw [Nat.sub_self, List.drop_zero] at hve hok
    refine ⟨must, least, ways, ve, ?_, rfl, rfl, hok, hp, hve, hq⟩
    rw [ja_s]
    unfold dfX12_judgesAll_11
    rw [if_pos (Int32.le_refl _)]
  | succ k ih =>
    intro i z must least ways ve hi hz hve hok
    obtain ⟨z, rfl⟩ : ∃ y, z = y + 1 := ⟨z - 1, by omega⟩
    obtain ⟨x, x1, x2, x3⟩ := sf_step hq (show i < l.length by omega)
    have xn := hl x x1
    obtain ⟨r1, r2, r3, r4, r5, r6⟩ := hR x xn
    obtain ⟨must', least', ways', e1, e2⟩ := rj_eq (mi := upd (upd mi 37 0) 41 (nI l.length)) (F := F) (L := L) (M := M) (pin := pin) (ways := ways) (r := x) ((if_neg (by decide)).trans ((if_neg (by decide)).trans h0)) ((if_neg (by decide)).trans ((if_neg (by decide)).trans h1)) ((if_neg (by decide)).trans ((if_neg (by decide)).trans h2)) ((if_neg (by decide)).trans (if_pos rfl)) hM hF hL r1 (show mo x ≤ M by omega) r3 (by omega) r4 r5 r6 hok hp
    rw [show upd (upd mi 37 0) 41 (nI l.length) 4 = mi 4 from (if_neg (by decide)).trans (if_neg (by decide)), show upd (upd mi 37 0) 41 (nI l.length) 5 = mi 5 from (if_neg (by decide)).trans (if_neg (by decide)), show upd (upd mi 37 0) 41 (nI l.length) 6 = mi 6 from (if_neg (by decide)).trans (if_neg (by decide))] at e1 e2
    have hj1 : (jd F L M (mi 4) (mi 5) (mi 6) kd mo dy (l.drop (l.length - (i + 1)))).1 = (vst F L M (mi 4) (mi 5) (mi 6) (jd F L M (mi 4) (mi 5) (mi 6) kd mo dy (l.drop (l.length - i))).1 (kd x) (mo x) (dy x)).2 := by rw [x2, jd]
    have hj2 : ∀ j, (jd F L M (mi 4) (mi 5) (mi 6) kd mo dy (l.drop (l.length - (i + 1)))).2 j = if j = x then (vst F L M (mi 4) (mi 5) (mi 6) (jd F L M (mi 4) (mi 5) (mi 6) kd mo dy (l.drop (l.length - i))).1 (kd x) (mo x) (dy x)).1 else (jd F L M (mi 4) (mi 5) (mi 6) kd mo dy (l.drop (l.length - i))).2 j := by
      intro j
      rw [x2, jd]
    rw [ja_s]
    unfold dfX12_judgesAll_11
    rw [if_neg (fun w => by have := (nI_leI (by omega) (by omega)).1 w; omega), nI_clamp (show i < 2 ^ 31 by omega), x3, nI_clamp (show x < 2 ^ 31 by omega), cal_b, e1, nI_1]
    refine ih (i + 1) z must' least' ways' _ (by omega) (by omega) (fun j hj => ?_) (by rw [hj1]; exact e2)
    rw [hj2]
    by_cases e : j = x
    · rw [if_pos e]
      exact if_pos e
    · rw [if_neg e, ← hve j hj]
      exact if_neg e
theorem ja_eq {F L M n m : Nat} {tr nm pl kd mo dy : Nat → Nat} {mi pn must least pin ways ve row fs fn fp rm rd rk ft fl : Nat → Int32} {t : Int32} (h : RW M n m tr nm pl kd mo dy) (hm6 : m ≤ 6) (hn : n ≤ 24) (hM : M ≤ 24) (hF : F ≤ 5) (hL : L ≤ 5) (h0 : mi 0 = nI M) (h1 : mi 1 = nI F) (h2 : mi 2 = nI L) (h10 : mi 10 = nI n) (hN : NM m pn fl) (hP : ∀ p, p < m → (if nI p = mi 45 then mi 44 else ft p) = nI (tr p) ∧ pn p = nI (nm p)) (hR : ∀ j, j < n → fp j = nI (pl j) ∧ rk j = nI (kd j) ∧ rm j = nI (mo j) ∧ rd j = nI (dy j)) :
    ∃ (must' least' pin' ways' ve' row' : Nat → Int32) (rmn : Int32), fX12_judgesAll mi must least pin ways ve row fs fn fp rm rd rk ft fl t = (0, rmn, must', least', pin', ways', ve', row') ∧ RT F L M n (mi 4) (mi 5) (mi 6) kd mo dy (lin (ltr tr nm pl mo dy kd) (kR mi fs fn fp t) n) 0 rmn must' least' pin' ve' row' := by
  have hA : ∀ c r q, r < n → q < n → fX12_isAhead (upd (upd mi 37 0) 41 c) fp rm rd rk ft fl (nI r) (nI q) = if ltr tr nm pl mo dy kd r q = true then 1 else 0 := by
    intro c r q hr hq
    refine ia_eq (pn := pn) h hm6 hM hn hN (fun p hp => ⟨?_, (hP p hp).2⟩) hR hr hq
    rw [← (hP p hp).1]
    unfold fX12_trustOf bfX12_trustOf_21
    rw [show upd (upd mi 37 0) 41 c 45 = mi 45 from (if_neg (by decide)).trans (if_neg (by decide)), show upd (upd mi 37 0) 41 c 44 = mi 44 from (if_neg (by decide)).trans (if_neg (by decide)), nI_clamp (by omega)]
  have hkR : kR (upd mi 37 0) fs fn fp t = kR mi fs fn fp t := by
    funext j
    unfold kR
    rw [show upd mi 37 0 43 = mi 43 from if_neg (by decide), show upd mi 37 0 42 = mi 42 from if_neg (by decide)]
  obtain ⟨w', u', f1, f2⟩ := fs_eq must least pin
  obtain ⟨a', r', e1, e2, e3⟩ := lr_eq (mi := upd mi 37 0) (fv := ve) (fr := row) (fs := fs) (fn := fn) (fp := fp) (fm := rm) (fd := rd) (fk := rk) (ft := ft) (fl := fl) (t := t) (lt := ltr tr nm pl mo dy kd) hn ((if_neg (by decide)).trans h10) hA
  rw [hkR] at e1 e3
  have hll := lin_len (lt := ltr tr nm pl mo dy kd) (K := kR mi fs fn fp t) n
  have hj : jd F L M (mi 4) (mi 5) (mi 6) kd mo dy ((lin (ltr tr nm pl mo dy kd) (kR mi fs fn fp t) n).drop ((lin (ltr tr nm pl mo dy kd) (kR mi fs fn fp t) n).length - 0)) = (okF, fun _ => 3) := by
    rw [Nat.sub_zero, List.drop_length, jd]
  obtain ⟨must', least', ways', ve', g1, g2⟩ := ja_L (F := F) (L := L) (M := M) (n := n) (kd := kd) (mo := mo) (dy := dy) (l := lin (ltr tr nm pl mo dy kd) (kR mi fs fn fp t) n) (mi := mi) (a1 := must) (a2 := least) (a3 := pin) (a4 := ways) (a5 := ve) (a6 := row) (fs := fs) (fn := fn) (fp := fp) (rm := rm) (rd := rd) (rk := rk) (ft := ft) (fl := fl) (pin := fX12_unpins pin) (row := r') (t := t) hn h0 h1 h2 hM hF hL (fun j hj => by
      obtain ⟨b1, b2, b3, b4, b5⟩ := h.2.2 j hj
      obtain ⟨c1, c2, c3, c4⟩ := hR j hj
      exact ⟨b2, b4, b5, c2, c3, c4⟩) (fun x hx => (lin_mem hx).1) (by omega) e3 (un_eq pin) (lin (ltr tr nm pl mo dy kd) (kR mi fs fn fp t) n).length 0 1000000000 w' u' ways a' (by omega) (by omega) (by
      rw [hj]
      intro j hj
      rw [e2 j hj]
      rfl) (by rw [hj]; exact rOK_free hM f2)
  refine ⟨must', least', _, ways', ve', r', _, ?_, g2⟩
  unfold fX12_judgesAll
  rw [cal_b, f1, cal_b, e1]
  rw [nI_0] at g1
  exact g1
theorem lo_s (a b c d e f : Nat → Int32) (z : Nat) (x y w : Int32) (g h : Nat → Int32) : lfX12_laysOfficial a b c d e f (z + 1) x y w g h = dfX12_laysOfficial_18 a b c d e f (lfX12_laysOfficial a b c d e f z) x y w g h := rfl
theorem lo_L {F L M : Nat} {ok : Nat → Nat → Bool} {mi a1 a2 a3 a4 a5 wt : Nat → Int32} (h0 : mi 0 = nI M) (h1 : mi 1 = nI F) (h2 : mi 2 = nI L) (hM : M ≤ 24) (hF : F ≤ 5) (hL : L ≤ 5) (hw : 0 < wy F L ok M 0 0 0) (hT : ∀ m' a' r' : Nat, m' ≤ M → a' ≤ m' → r' ≤ 10 → wt (275 * m' + 11 * a' + r') = nI (wy F L ok (M - m') m' a' r')) : ∀ (k m z : Nat) (of : Nat → Int32), m + k = M → k < z → ∃ of' : Nat → Int32, lfX12_laysOfficial mi a1 a2 a3 a4 a5 z (nI (ofs F L M ok m).1) (nI (ofs F L M ok m).2) (nI m) wt of = (wt, of') ∧ (∀ j, m < j → j ≤ M → of' j = nI (29 * j + (ofs F L M ok j).1)) ∧ ∀ j, j ≤ m → of' j = of j := by
  intro k
  induction k with
  | zero =>
    intro m z of hm hz
    obtain ⟨z, rfl⟩ : ∃ y, z = y + 1 := ⟨z - 1, by omega⟩
    have e : m = M := by omega
    subst e
    refine ⟨of, ?_, fun j q1 q2 => absurd q1 (by omega), fun j _ => rfl⟩
    rw [lo_s]
    unfold dfX12_laysOfficial_18
    rw [if_pos (by rw [h0]; exact Int32.le_refl _)]
  | succ k ih =>
    intro m z of hm hz
    obtain ⟨z, rfl⟩ : ∃ y, z = y + 1 := ⟨z - 1, by omega⟩
    obtain ⟨w1, w2, w3, w4⟩ := ofs_ok hF hL hw m (by omega)
    obtain ⟨v1, v2, v3, v4⟩ := ofs_ok hF hL hw (m + 1) (by omega)
    have hj1 := jn_le F L (ofs F L M ok m).2 1 hF hL
    have hWle := wy_max (F := F) (L := L) (ok := ok) hM (show M - (m + 1) ≤ M by omega) (m + 1) ((ofs F L M ok m).1 + 1) (jn F L (ofs F L M ok m).2 1)
    have e1 := pj_ways (mi := mi) (w := wt) (F := F) (L := L) (r := (ofs F L M ok m).2) (k := 1) (m := m) (a := (ofs F L M ok m).1) (W := wy F L ok (M - (m + 1)) (m + 1) ((ofs F L M ok m).1 + 1) (jn F L (ofs F L M ok m).2 1)) h1 h2 hF hL w3 (by omega) (by omega) (by omega) (fun _ => hT (m + 1) ((ofs F L M ok m).1 + 1) _ (by omega) (by omega) hj1)
    have hstep : lfX12_laysOfficial mi a1 a2 a3 a4 a5 (z + 1) (nI (ofs F L M ok m).1) (nI (ofs F L M ok m).2) (nI m) wt of = lfX12_laysOfficial mi a1 a2 a3 a4 a5 z (nI (ofs F L M ok (m + 1)).1) (nI (ofs F L M ok (m + 1)).2) (nI (m + 1)) wt (upd of (m + 1) (nI (29 * (m + 1) + (ofs F L M ok (m + 1)).1))) := by
      have rb := fun k (hk : k ≤ 1) => pj_rb (mi := mi) (F := F) (L := L) (r := (ofs F L M ok m).2) (k := k) h1 h2 hF hL w3 hk
      rw [lo_s]
      unfold dfX12_laysOfficial_18 bfX12_laysOfficial_42
      rw [if_neg (fun q => by rw [h0] at q; have := (nI_leI (by omega) (by omega)).1 q; omega), cal_b, show (1 : Int32) = nI 1 from rfl, e1]
      by_cases hc : ¬ jn F L (ofs F L M ok m).2 1 = 0 ∧ 0 < wy F L ok (M - (m + 1)) (m + 1) ((ofs F L M ok m).1 + 1) (jn F L (ofs F L M ok m).2 1)
      · have e : ofs F L M ok (m + 1) = ((ofs F L M ok m).1 + 1, jn F L (ofs F L M ok m).2 1) := by rw [ofs, if_pos hc]
        rw [if_neg hc.1, if_neg (nI_nle hc.2 (by omega)), cal_b, rb 1 (by omega), if_neg hc.1, nI_add, nI_add, nI_clamp (by omega), show (29 : Int32) = nI 29 from rfl, pk_mul, nI_add, e]
      · have e : ofs F L M ok (m + 1) = ((ofs F L M ok m).1, jn F L (ofs F L M ok m).2 0) := by rw [ofs, if_neg hc]
        have hz0 : (if jn F L (ofs F L M ok m).2 1 = 0 then 0 else wy F L ok (M - (m + 1)) (m + 1) ((ofs F L M ok m).1 + 1) (jn F L (ofs F L M ok m).2 1)) = 0 := by
          by_cases hz : jn F L (ofs F L M ok m).2 1 = 0
          · rw [if_pos hz]
          · rw [if_neg hz]
            have : ¬ 0 < wy F L ok (M - (m + 1)) (m + 1) ((ofs F L M ok m).1 + 1) (jn F L (ofs F L M ok m).2 1) := fun q => hc ⟨hz, q⟩
            omega
        have hnz : ¬ jn F L (ofs F L M ok m).2 0 = 0 := fun q => by
          have h6 := v4 (by omega)
          rw [e, q] at h6
          exact absurd h6 (Nat.not_succ_le_zero 0)
        rw [hz0, if_pos (by rw [nI_0]; exact Int32.le_refl 0), cal_b, show (0 : Int32) = nI 0 from rfl, rb 0 (by omega), if_neg hnz, nI_add, nI_add, nI_clamp (by omega), show (29 : Int32) = nI 29 from rfl, pk_mul, nI_add, e, Nat.add_zero]
    rw [hstep]
    obtain ⟨of', i1, i2, i3⟩ := ih (m + 1) z (upd of (m + 1) (nI (29 * (m + 1) + (ofs F L M ok (m + 1)).1))) (by omega) (by omega)
    refine ⟨of', i1, fun j q1 q2 => ?_, fun j q => ?_⟩
    · by_cases e : j = m + 1
      · rw [i3 j (by omega), e]
        exact if_pos rfl
      · exact i2 j (by omega) q2
    · rw [i3 j (by omega)]
      exact if_neg (by omega)
theorem lo_eq {F L M : Nat} {ok : Nat → Nat → Bool} {mi must least pin ways of : Nat → Int32} (h0 : mi 0 = nI M) (h1 : mi 1 = nI F) (h2 : mi 2 = nI L) (h37 : mi 37 = 0) (hM : M ≤ 24) (hF : F ≤ 5) (hL : L ≤ 5) (hw : 0 < wy F L ok M 0 0 0) (hO : rOK M ok must least) (hp : pinF pin) : ∃ wt of' : Nat → Int32, fX12_laysOfficial mi must least pin ways of = (wt, of') ∧ ∀ j, j ≤ M → of' j = nI (29 * j + (ofs F L M ok j).1) := by
  obtain ⟨_, hT⟩ := pc_counts (mi := mi) (must := must) (least := least) (pin := pin) (ways := ways) (F := F) (L := L) (M := M) (ok := ok) h0 hM h1 h2 hF hL (fun m' a' q1 q2 => by
    rw [rOK_open hM hO hp m' a' q1 q2]
    exact ⟨fun q => ⟨h37, q⟩, fun q => q.2⟩)
  obtain ⟨of', i1, i2, i3⟩ := lo_L (F := F) (L := L) (M := M) (ok := ok) (mi := mi) (a1 := must) (a2 := least) (a3 := pin) (a4 := ways) (a5 := of) (wt := (fX12_counts mi must least pin ways).2) h0 h1 h2 hM hF hL hw hT M 0 1000000000 (upd of 0 (0 : Int32)) (by omega) (by omega)
  rw [show ofs F L M ok 0 = (0, 0) from by rw [ofs], nI_0] at i1
  refine ⟨(fX12_counts mi must least pin ways).2, of', ?_, fun j hj => ?_⟩
  · unfold fX12_laysOfficial
    rw [cal_b, show (0 : Int32).toNatClampNeg = 0 from rfl]
    exact i1
  · by_cases e : j = 0
    · rw [e, i3 0 (by omega), show (ofs F L M ok 0).1 = 0 from by rw [ofs]]
      exact if_pos rfl
    · exact i2 j (by omega) hj
