noncomputable def kC (rn rs : Nat → Int32) (t : Int32) (j : Nat) : Bool := decide (¬ fX7_isKnownBy (rn j) (rs j) t = 0)
def AD (M F L n m : Nat) (tr nm pl kd mo dy : Nat → Nat) (am af al rc : Int32) (pn pt rp rk rm rd rn : Nat → Int32) : Prop :=
  (am = nI M ∧ af = nI F ∧ al = nI L ∧ rc = nI n) ∧ (2 ≤ M ∧ M ≤ 24 ∧ 1 ≤ F ∧ F ≤ 5 ∧ 1 ≤ L ∧ L ≤ 5 ∧ m ≤ 6 ∧ n ≤ 24) ∧ RW M n m tr nm pl kd mo dy ∧ (∀ p, p < m → pt p = nI (tr p) ∧ pn p = nI (nm p)) ∧ (∀ j, j < n → rp j = nI (pl j) ∧ rk j = nI (kd j) ∧ rm j = nI (mo j) ∧ rd j = nI (dy j)) ∧ ∀ j, j < n → 0 ≤ (rn j).toInt
def CI (F L M n : Nat) (hm ms mp : Int32) (kd mo dy : Nat → Nat) (lt : Nat → Nat → Bool) (rn rs : Nat → Int32) (cs cn ql tb fm ff fl : Int32) (ve qu bg al on : Nat → Int32) : Prop :=
  oZ on ∧ (cs = 0 ∨ ∃ t', fX0_latestNews (nI n) rn rs t' = cn ∧ CT F L M n hm ms mp kd mo dy (lin lt (kC rn rs t') n) ql tb fm ff fl ve qu bg al on)
theorem lin_news {lt : Nat → Nat → Bool} {n : Nat} {rn rs : Nat → Int32} {t t' : Int32} (hn : n ≤ 24) (h0 : ∀ j, j < n → 0 ≤ (rn j).toInt) (he : fX0_latestNews (nI n) rn rs t = fX0_latestNews (nI n) rn rs t') : lin lt (kC rn rs t) n = lin lt (kC rn rs t') n :=
  lin_cong n (fun j hj => decide_eq_decide.mpr (ln_same hn h0 he j hj))
theorem cb_eq {F L M n m : Nat} {tr nm pl kd mo dy : Nat → Nat} {am af al rc hm ms mp : Int32} {pn pt rp rk rm rd rn rs : Nat → Int32} (hD : AD M F L n m tr nm pl kd mo dy am af al rc pn pt rp rk rm rd rn) {cs cn ts ql tb fm ff fl : Int32} {ve qu bg fal on : Nat → Int32} {tu : Nat → Int64} (hC : CI F L M n hm ms mp kd mo dy (ltr tr nm pl mo dy kd) rn rs cs cn ql tb fm ff fl ve qu bg fal on) (t : Int32) :
    ∃ (cs' cn' ts' ql' tb' fm' ff' fl' : Int32) (ve' qu' bg' al' on' : Nat → Int32) (tu' : Nat → Int64), fX11_courtBy cs cn ts ql tb ve qu tu bg fm ff fl fal on am af al hm ms mp rc pn pt rp rk rm rd rn rs t = (cs', cn', ts', ql', tb', fm', ff', fl', ve', qu', tu', bg', al', on') ∧ CT F L M n hm ms mp kd mo dy (lin (ltr tr nm pl mo dy kd) (kC rn rs t) n) ql' tb' fm' ff' fl' ve' qu' bg' al' on' ∧ CI F L M n hm ms mp kd mo dy (ltr tr nm pl mo dy kd) rn rs cs' cn' ql' tb' fm' ff' fl' ve' qu' bg' al' on' ∧ (ts' = 0 ∨ ((cs', cn', ts', ql', tb', fm', ff', fl') = (cs, cn, ts, ql, tb, fm, ff, fl) ∧ (ve', qu', bg', al', on') = (ve, qu, bg, fal, on) ∧ ¬ cs = 0)) ∧ ¬ cs' = 0 := by
  obtain ⟨⟨rfl, rfl, rfl, rfl⟩, ⟨b1, b2, b3, b4, b5, b6, b7, b8⟩, hW, hP, hR, hN⟩ := hD
  obtain ⟨hZ, hC⟩ := hC
  have hgo : ∃ (cs' cn' ts' ql' tb' fm' ff' fl' : Int32) (ve' qu' bg' al' on' : Nat → Int32) (tu' : Nat → Int64), bfX11_courtBy_24 cs cn ts ql tb ve qu tu bg fm ff fl fal on (nI M) (nI F) (nI L) hm ms mp (nI n) pn pt rp rk rm rd rn rs t (fX0_latestNews (nI n) rn rs t) cs cn ts ql tb fm ff fl ve qu tu bg fal on = (cs', cn', ts', ql', tb', fm', ff', fl', ve', qu', tu', bg', al', on') ∧ CT F L M n hm ms mp kd mo dy (lin (ltr tr nm pl mo dy kd) (kC rn rs t) n) ql' tb' fm' ff' fl' ve' qu' bg' al' on' ∧ CI F L M n hm ms mp kd mo dy (ltr tr nm pl mo dy kd) rn rs cs' cn' ql' tb' fm' ff' fl' ve' qu' bg' al' on' ∧ (ts' = 0 ∨ ((cs', cn', ts', ql', tb', fm', ff', fl') = (cs, cn, ts, ql, tb, fm, ff, fl) ∧ (ve', qu', bg', al', on') = (ve, qu, bg, fal, on) ∧ ¬ cs = 0)) ∧ ¬ cs' = 0 := by
    obtain ⟨q1, q2, q3, q4, q5, q6, q7, q8, q9, q10, q11, e1, e2⟩ := cj_eq (hm := hm) (ms := ms) (mp := mp) (fve := ve) (fqu := qu) (fcb := bg) (ffal := fal) (ffon := on) (ftu := tu) (t := t) (K := kC rn rs t) hW b7 b8 (by omega) b2 b3 b5 b4 b6 hP hR (fun j hj => decide_eq_true_iff) hZ
    refine ⟨1, fX0_latestNews (nI n) rn rs t, 0, q1, q2, q3, q4, q5, q6, q7, q8, q9, q10, q11, ?_, e2, ⟨e2.2.2.2.2.2.2.2.2.2, Or.inr ⟨t, rfl, e2⟩⟩, Or.inl rfl, by decide⟩
    unfold bfX11_courtBy_24 bfX11_courtBy_51
    rw [cal_b, e1]
  unfold fX11_courtBy
  rw [cal_b]
  by_cases h1 : cs = 0
  · rw [if_pos h1]
    exact hgo
  · rw [if_neg h1]
    by_cases h2 : fX0_latestNews (nI n) rn rs t = cn
    · rw [if_pos h2]
      rcases hC with hC | ⟨t', c1, c2⟩
      · exact absurd hC h1
      · unfold bfX11_courtBy_51
        refine ⟨_, _, _, _, _, _, _, _, _, _, _, _, _, _, rfl, ?_, ⟨hZ, Or.inr ⟨t', c1, c2⟩⟩, Or.inr ⟨rfl, rfl, h1⟩, h1⟩
        rw [lin_news b8 hN (h2.trans c1.symm)]
        exact c2
    · rw [if_neg h2]
      exact hgo
