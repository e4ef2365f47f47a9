noncomputable def eyb (hm ms mp : Int32) (k m d : Nat) : Bool := decide (k = 0 ∧ ¬ hm = 0 ∧ ¬ fX0_earlyOf ms mp (nI m) ≤ nI d)
noncomputable def vst (F L M : Nat) (hm ms mp : Int32) (ok : Nat → Nat → Bool) (k m d : Nat) : Nat × (Nat → Nat → Bool) := if eyb hm ms mp k m d = true then (1, ok) else if 0 < wy F L (nrw ok k m d) M 0 0 0 then (0, nrw ok k m d) else (2, ok)
noncomputable def jd (F L M : Nat) (hm ms mp : Int32) (kd mo dy : Nat → Nat) : List Nat → (Nat → Nat → Bool) × (Nat → Nat)
  | [] => (okF, fun _ => 3)
  | r :: l => ((vst F L M hm ms mp (jd F L M hm ms mp kd mo dy l).1 (kd r) (mo r) (dy r)).2, fun j => if j = r then (vst F L M hm ms mp (jd F L M hm ms mp kd mo dy l).1 (kd r) (mo r) (dy r)).1 else (jd F L M hm ms mp kd mo dy l).2 j)
theorem jd_out {F L M : Nat} {hm ms mp : Int32} {kd mo dy : Nat → Nat} {x : Nat} : ∀ l : List Nat, ¬ x ∈ l → (jd F L M hm ms mp kd mo dy l).2 x = 3 := by
  intro l
  induction l with
  | nil => intro _; rfl
  | cons r l ih =>
    intro h
    rw [List.mem_cons, not_or] at h
    rw [jd]
    show (if x = r then _ else _) = 3
    rw [if_neg h.1]
    exact ih h.2
theorem vst_le {F L M : Nat} {hm ms mp : Int32} {ok : Nat → Nat → Bool} {k m d : Nat} : (vst F L M hm ms mp ok k m d).1 ≤ 2 := by
  unfold vst
  split
  · exact (by decide : 1 ≤ 2)
  · split
    · exact (by decide : 0 ≤ 2)
    · exact Nat.le_refl 2
theorem jd_le {F L M : Nat} {hm ms mp : Int32} {kd mo dy : Nat → Nat} {x : Nat} : ∀ l : List Nat, (jd F L M hm ms mp kd mo dy l).2 x ≤ 3 := by
  intro l
  induction l with
  | nil => exact Nat.le_refl 3
  | cons r l ih =>
    rw [jd]
    show (if x = r then _ else _) ≤ 3
    split
    · exact Nat.le_trans vst_le (by decide)
    · exact ih
theorem vst_pos {F L M : Nat} {hm ms mp : Int32} {ok : Nat → Nat → Bool} {k m d : Nat} (h : 0 < wy F L ok M 0 0 0) : 0 < wy F L (vst F L M hm ms mp ok k m d).2 M 0 0 0 := by
  unfold vst
  split
  · exact h
  · split
    · rename_i h1
      exact h1
    · exact h
theorem jd_pos {F L M : Nat} {hm ms mp : Int32} {kd mo dy : Nat → Nat} (hF1 : 1 ≤ F) (hL1 : 1 ≤ L) : ∀ l : List Nat, 0 < wy F L (jd F L M hm ms mp kd mo dy l).1 M 0 0 0 := by
  intro l
  induction l with
  | nil => exact wy_free hF1 hL1 M 0 0 0
  | cons r l ih =>
    rw [jd]
    exact vst_pos ih
theorem fxA_cong {f g : Nat → Int32} {M : Nat} {ok : Nat → Nat → Bool} (h : fxA f M ok) (e : ∀ m, m ≤ M → g m = f m) : fxA g M ok := by
  intro m hm i hi
  rw [e m hm]
  exact h m hm i hi
theorem vo_go {F L M k m d : Nat} {ok : Nat → Nat → Bool} {al on : Nat → Int32} {hm ms mp a b : Int32} {c1 c2 : Nat → Int32} (hM1 : 1 ≤ M) (hM : M ≤ 24) (hF1 : 1 ≤ F) (hL1 : 1 ≤ L) (hF : F ≤ 5) (hL : L ≤ 5) (hk : k ≤ 2) (hmM : m ≤ M) (hd : d ≤ 999) (hA : fxA al M ok) (hZ : oZ on) (hw : 0 < wy F L ok M 0 0 0) (he : ¬ eyb hm ms mp k m d = true) : ∃ al' on' : Nat → Int32, bfX1_verdictOn_41 (nI M) (nI F) (nI L) c1 c2 hm ms mp (nI k) (nI m) (nI d) al on = (nI (vst F L M hm ms mp ok k m d).1, al', on') ∧ fxA al' M (vst F L M hm ms mp ok k m d).2 ∧ oZ on' := by
  have hN := nw_narrow hA hk (show m ≤ 24 by omega) hd
  obtain ⟨f1, f2, _⟩ := pf_fits hM1 hM hF1 hL1 hF hL hN hZ
  have ev : vst F L M hm ms mp ok k m d = if 0 < wy F L (nrw ok k m d) M 0 0 0 then (0, nrw ok k m d) else (2, ok) := by
    unfold vst
    rw [if_neg he]
  unfold bfX1_verdictOn_41 bfX1_verdictOn_90
  rw [cal_b, nI_clamp (show m < 2 ^ 31 by omega)]
  by_cases hs : fX3_narrow al (nI k) (nI m) (nI d) m = al m
  · rw [if_pos hs]
    have e := nw_same hA hk (show m ≤ 24 by omega) hd hM hmM hs
    have e2 := wy_cong (F := F) (L := L) e M 0 0 0 (by omega) (by omega)
    have e3 : 0 < wy F L (nrw ok k m d) M 0 0 0 := by rw [e2]; exact hw
    rw [ev, if_pos e3]
    exact ⟨_, _, rfl, hN, hZ⟩
  · rw [if_neg hs, cal_b]
    by_cases hp : 0 < wy F L (nrw ok k m d) M 0 0 0
    · rw [if_pos hp] at f1
      rw [ev, if_pos hp, if_neg (by rw [f1]; decide)]
      exact ⟨_, _, rfl, hN, f2⟩
    · rw [if_neg hp] at f1
      rw [ev, if_neg hp, if_pos f1]
      refine ⟨_, _, rfl, fxA_cong hA (fun m' hm' => ?_), f2⟩
      by_cases e : m' = m
      · rw [e]
        exact if_pos rfl
      · rw [show upd (fX3_narrow al (nI k) (nI m) (nI d)) m (al m) m' = fX3_narrow al (nI k) (nI m) (nI d) m' from if_neg e]
        exact nw_at (by omega) e
theorem vo_eq {F L M k m d : Nat} {ok : Nat → Nat → Bool} {al on : Nat → Int32} {hm ms mp : Int32} (hM1 : 1 ≤ M) (hM : M ≤ 24) (hF1 : 1 ≤ F) (hL1 : 1 ≤ L) (hF : F ≤ 5) (hL : L ≤ 5) (hk : k ≤ 2) (hmM : m ≤ M) (hd : d ≤ 999) (hA : fxA al M ok) (hZ : oZ on) (hw : 0 < wy F L ok M 0 0 0) : ∃ al' on' : Nat → Int32, fX1_verdictOn (nI M) (nI F) (nI L) al on hm ms mp (nI k) (nI m) (nI d) = (nI (vst F L M hm ms mp ok k m d).1, al', on') ∧ fxA al' M (vst F L M hm ms mp ok k m d).2 ∧ oZ on' := by
  have hgo : ¬ eyb hm ms mp k m d = true → ∃ al' on' : Nat → Int32, bfX1_verdictOn_41 (nI M) (nI F) (nI L) al on hm ms mp (nI k) (nI m) (nI d) al on = (nI (vst F L M hm ms mp ok k m d).1, al', on') ∧ fxA al' M (vst F L M hm ms mp ok k m d).2 ∧ oZ on' := fun he => vo_go (a := 0) (b := 0) hM1 hM hF1 hL1 hF hL hk hmM hd hA hZ hw he
  have heq : eyb hm ms mp k m d = true ↔ (k = 0 ∧ ¬ hm = 0 ∧ ¬ fX0_earlyOf ms mp (nI m) ≤ nI d) := by
    unfold eyb
    rw [decide_eq_true_eq]
  unfold fX1_verdictOn bfX1_verdictOn_18 bfX1_verdictOn_19
  by_cases h0 : k = 0
  · rw [if_pos (by rw [h0]; rfl)]
    by_cases h1 : hm = 0
    · rw [if_pos h1, if_pos rfl]
      exact hgo (fun q => (heq.1 q).2.1 h1)
    · rw [if_neg h1, if_neg (by decide : ¬ (1 : Int32) = 0), cal_b]
      by_cases h2 : fX0_earlyOf ms mp (nI m) ≤ nI d
      · rw [if_pos h2]
        exact hgo (fun q => (heq.1 q).2.2 h2)
      · rw [if_neg h2]
        have ev : vst F L M hm ms mp ok k m d = (1, ok) := by
          unfold vst
          rw [if_pos (heq.2 ⟨h0, h1, h2⟩)]
        rw [ev]
        exact ⟨_, _, rfl, hA, hZ⟩
  · rw [if_neg (nI_ne0 (by omega) (by omega)), if_pos rfl]
    exact hgo (fun q => h0 (heq.1 q).1)
theorem sf_step {f : Nat → Int32} : ∀ {l : List Nat} {i : Nat}, Rg f l → i < l.length → ∃ x, x ∈ l ∧ l.drop (l.length - (i + 1)) = x :: l.drop (l.length - i) ∧ f i = nI x := by
  intro l
  induction l with
  | nil => intro i _ h; exact absurd h (by rw [List.length_nil]; omega)
  | cons y l ih =>
    intro i hR hi
    rw [List.length_cons] at hi ⊢
    by_cases e : i = l.length
    · subst e
      refine ⟨y, List.mem_cons.mpr (Or.inl rfl), ?_, hR.1⟩
      rw [Nat.sub_self, show l.length + 1 - l.length = 1 from by omega]
      rfl
    · obtain ⟨x, h1, h2, h3⟩ := ih hR.2 (show i < l.length by omega)
      refine ⟨x, List.mem_cons.mpr (Or.inr h1), ?_, h3⟩
      rw [show l.length + 1 - (i + 1) = (l.length - (i + 1)) + 1 from by omega, show l.length + 1 - i = (l.length - i) + 1 from by omega, List.drop_succ_cons, List.drop_succ_cons]
      exact h2
theorem ins_nodup {lt : Nat → Nat → Bool} {r : Nat} : ∀ {l : List Nat}, ¬ r ∈ l → l.Nodup → (ins lt r l).Nodup := by
  intro l
  induction l with
  | nil =>
    intro _ _
    rw [ins]
    simp
  | cons q l ih =>
    intro h1 h2
    rw [List.mem_cons, not_or] at h1
    rw [List.nodup_cons] at h2
    rw [ins]
    split
    · rw [List.nodup_cons]
      refine ⟨fun h => ?_, ih h1.2 h2.2⟩
      rcases ins_mem h with h | h
      · exact h1.1 h.symm
      · exact h2.1 h
    · rw [List.nodup_cons, List.nodup_cons, List.mem_cons, not_or]
      exact ⟨h1, h2⟩
theorem lin_nodup {lt : Nat → Nat → Bool} {K : Nat → Bool} : ∀ n : Nat, (lin lt K n).Nodup := by
  intro n
  induction n with
  | zero =>
    rw [lin]
    exact List.nodup_nil
  | succ n ih =>
    rw [lin]
    split
    · exact ins_nodup (fun h => by have := (lin_mem h).1; omega) ih
    · exact ih
theorem cj_s (a b : Nat → Int32) (c : Nat → Int64) (d e f : Nat → Int32) (g h i j k l m : Int32) (n o p q r s t u : Nat → Int32) (v : Int32) (z : Nat) (x1 x2 x3 x4 x5 x6 : Int32) (y1 y2 : Nat → Int32) (y3 : Nat → Int64) (y4 y5 : Nat → Int32) : lfX1_judge a b c d e f g h i j k l m n o p q r s t u v (z + 1) x1 x2 x3 x4 x5 x6 y1 y2 y3 y4 y5 = dfX1_judge_21 a b c d e f g h i j k l m n o p q r s t u v (lfX1_judge a b c d e f g h i j k l m n o p q r s t u v z) x1 x2 x3 x4 x5 x6 y1 y2 y3 y4 y5 := rfl
def tbE (tb : Int32) (n : Nat) (V : Nat → Nat) : Prop := ∀ j : Nat, j < 32 → bt tb j = decide (j < n ∧ V j = 0)
def CT (F L M n : Nat) (hm ms mp : Int32) (kd mo dy : Nat → Nat) (l : List Nat) (ql tb fm ff fl : Int32) (ve qu bg al on : Nat → Int32) : Prop :=
  ql = nI l.length ∧ tbE tb n (jd F L M hm ms mp kd mo dy l).2 ∧ fm = nI M ∧ ff = nI F ∧ fl = nI L ∧ (∀ j, j < n → ve j = nI ((jd F L M hm ms mp kd mo dy l).2 j)) ∧ Rg qu l ∧ (∀ m, m ≤ M → bg m = nI (29 * m + (ofs F L M (jd F L M hm ms mp kd mo dy l).1 m).1)) ∧ fxA al M (jd F L M hm ms mp kd mo dy l).1 ∧ oZ on
theorem cj_L {F L M n : Nat} {hm ms mp : Int32} {kd mo dy : Nat → Nat} {l : List Nat} {fve fqu fcb ffal ffon pn pt rp rk rm rd rn rs qu : Nat → Int32} {ftu tu : Nat → Int64} {am af alx t : Int32} (hn : n ≤ 24) (hM1 : 1 ≤ M) (hM : M ≤ 24) (hF1 : 1 ≤ F) (hL1 : 1 ≤ L) (hF : F ≤ 5) (hL : L ≤ 5) (hR : ∀ j, j < n → kd j ≤ 2 ∧ mo j < M ∧ dy j ≤ 999 ∧ rk j = nI (kd j) ∧ rm j = nI (mo j) ∧ rd j = nI (dy j)) (hl : ∀ x, x ∈ l → x < n) (hll : l.length ≤ 24) (hnd : l.Nodup) (hq : Rg qu l) :
    ∀ (k i z : Nat) (tb : Int32) (ve al on : Nat → Int32), i + k = l.length → k < z → tbE tb n (jd F L M hm ms mp kd mo dy (l.drop (l.length - i))).2 → (∀ j, j < n → ve j = nI ((jd F L M hm ms mp kd mo dy (l.drop (l.length - i))).2 j)) → fxA al M (jd F L M hm ms mp kd mo dy (l.drop (l.length - i))).1 → oZ on →
      ∃ (tb' : Int32) (ve' bg' al' on' : Nat → Int32), lfX1_judge fve fqu ftu fcb ffal ffon am af alx hm ms mp (nI n) pn pt rp rk rm rd rn rs t z (nI i) (nI l.length) tb (nI M) (nI F) (nI L) ve qu tu al on = (nI l.length, tb', nI M, nI F, nI L, ve', qu, tu, bg', al', on') ∧ CT F L M n hm ms mp kd mo dy l (nI l.length) tb' (nI M) (nI F) (nI L) ve' qu bg' al' on' := by
  intro k
  induction k with
  | zero =>
    intro i z tb ve al on hi hz htb hve hal hon
    obtain ⟨z, rfl⟩ : ∃ y, z = y + 1 := ⟨z - 1, by omega⟩
    have e : i = l.length := by omega
    subst e
    rw [Nat.sub_self, List.drop_zero] at htb hve hal
    have hpos := jd_pos (M := M) (hm := hm) (ms := ms) (mp := mp) (kd := kd) (mo := mo) (dy := dy) hF1 hL1 l
    obtain ⟨f1, f2, f3⟩ := pf_fits hM1 hM hF1 hL1 hF hL hal hon
    refine ⟨_, _, _, _, _, ?_, rfl, htb, rfl, rfl, rfl, hve, hq, bi_begins (fbg := fcb) hM hF1 hL1 hF hL hpos f2 f3, hal, f2⟩
    rw [cj_s]
    unfold dfX1_judge_21
    rw [if_pos (Int32.le_refl _), cal_b, cal_b]
  | succ k ih =>
    intro i z tb ve al on hi hz htb hve hal hon
    obtain ⟨z, rfl⟩ : ∃ y, z = y + 1 := ⟨z - 1, by omega⟩
    obtain ⟨x, x1, x2, x3⟩ := sf_step hq (show i < l.length by omega)
    have xn := hl x x1
    obtain ⟨r1, r2, r3, r4, r5, r6⟩ := hR x xn
    have hpos := jd_pos (M := M) (hm := hm) (ms := ms) (mp := mp) (kd := kd) (mo := mo) (dy := dy) hF1 hL1 (l.drop (l.length - i))
    have hnx : ¬ x ∈ l.drop (l.length - i) := by
      have h1 : (l.drop (l.length - (i + 1))).Nodup := hnd.sublist (List.drop_sublist _ _)
      rw [x2, List.nodup_cons] at h1
      exact h1.1
    have hold := jd_out (F := F) (L := L) (M := M) (hm := hm) (ms := ms) (mp := mp) (kd := kd) (mo := mo) (dy := dy) _ hnx
    obtain ⟨al', on', v1, v2, v3⟩ := vo_eq (hm := hm) (ms := ms) (mp := mp) hM1 hM hF1 hL1 hF hL r1 (show mo x ≤ M by omega) r3 hal hon hpos
    have hvle := vst_le (F := F) (L := L) (M := M) (hm := hm) (ms := ms) (mp := mp) (ok := (jd F L M hm ms mp kd mo dy (l.drop (l.length - i))).1) (k := kd x) (m := mo x) (d := dy x)
    have hj1 : (jd F L M hm ms mp kd mo dy (l.drop (l.length - (i + 1)))).1 = (vst F L M hm ms mp (jd F L M hm ms mp kd mo dy (l.drop (l.length - i))).1 (kd x) (mo x) (dy x)).2 := by rw [x2, jd]
    have hj2 : ∀ j, (jd F L M hm ms mp kd mo dy (l.drop (l.length - (i + 1)))).2 j = if j = x then (vst F L M hm ms mp (jd F L M hm ms mp kd mo dy (l.drop (l.length - i))).1 (kd x) (mo x) (dy x)).1 else (jd F L M hm ms mp kd mo dy (l.drop (l.length - i))).2 j := by
      intro j
      rw [x2, jd]
    have hve' : ∀ j, j < n → upd ve x (nI (vst F L M hm ms mp (jd F L M hm ms mp kd mo dy (l.drop (l.length - i))).1 (kd x) (mo x) (dy x)).1) j = nI ((jd F L M hm ms mp kd mo dy (l.drop (l.length - (i + 1)))).2 j) := by
      intro j hj
      rw [hj2]
      by_cases e : j = x
      · rw [if_pos e]
        exact if_pos e
      · rw [if_neg e, ← hve j hj]
        exact if_neg e
    have hal' : fxA al' M (jd F L M hm ms mp kd mo dy (l.drop (l.length - (i + 1)))).1 := by rw [hj1]; exact v2
    rw [cj_s]
    unfold dfX1_judge_21 bfX1_judge_79
    rw [if_neg (fun w => by have := (nI_leI (by omega) (by omega)).1 w; omega), nI_clamp (show i < 2 ^ 31 by omega), x3, nI_clamp (show x < 2 ^ 31 by omega), r4, r5, r6, cal_b, v1, nI_1]
    show ∃ (tb' : Int32) (ve' bg' al' on' : Nat → Int32), (if upd ve x (nI (vst F L M hm ms mp (jd F L M hm ms mp kd mo dy (l.drop (l.length - i))).1 (kd x) (mo x) (dy x)).1) x = (0 : Int32) then _ else _) = _ ∧ _
    rw [show upd ve x (nI (vst F L M hm ms mp (jd F L M hm ms mp kd mo dy (l.drop (l.length - i))).1 (kd x) (mo x) (dy x)).1) x = nI (vst F L M hm ms mp (jd F L M hm ms mp kd mo dy (l.drop (l.length - i))).1 (kd x) (mo x) (dy x)).1 from if_pos rfl]
    by_cases h0 : (vst F L M hm ms mp (jd F L M hm ms mp kd mo dy (l.drop (l.length - i))).1 (kd x) (mo x) (dy x)).1 = 0
    · rw [if_pos (by rw [h0]; rfl)]
      refine ih (i + 1) z _ _ al' on' (by omega) (by omega) ?_ hve' hal' v3
      intro j hj
      rw [b_or, htb j hj, sh_1 x (by omega) j hj, hj2]
      by_cases e : j = x
      · rw [if_pos e, h0]
        simp [e, xn]
      · rw [if_neg e]
        simp [e]
    · rw [if_neg (nI_ne0 (by omega) (by omega))]
      refine ih (i + 1) z _ _ al' on' (by omega) (by omega) ?_ hve' hal' v3
      intro j hj
      rw [htb j hj, hj2]
      by_cases e : j = x
      · rw [if_pos e, e, hold]
        simp [h0]
      · rw [if_neg e]
theorem cj_eq {F L M n m : Nat} {hm ms mp : Int32} {tr nm pl kd mo dy : Nat → Nat} {fve fqu fcb ffal ffon pn pt rp rk rm rd rn rs : Nat → Int32} {ftu : Nat → Int64} {t : Int32} {K : Nat → Bool} (h : RW M n m tr nm pl kd mo dy) (hm6 : m ≤ 6) (hn : n ≤ 24) (hM1 : 1 ≤ M) (hM : M ≤ 24) (hF1 : 1 ≤ F) (hL1 : 1 ≤ L) (hF : F ≤ 5) (hL : L ≤ 5) (hP : ∀ p, p < m → pt p = nI (tr p) ∧ pn p = nI (nm p)) (hR : ∀ j, j < n → rp j = nI (pl j) ∧ rk j = nI (kd j) ∧ rm j = nI (mo j) ∧ rd j = nI (dy j)) (hK : ∀ j, j < n → (K j = true ↔ ¬ fX7_isKnownBy (rn j) (rs j) t = 0)) (hZ : oZ ffon) :
    ∃ (ql tb a b c : Int32) (ve qu bg al on : Nat → Int32) (tu : Nat → Int64), fX1_judge fve fqu ftu fcb ffal ffon (nI M) (nI F) (nI L) hm ms mp (nI n) pn pt rp rk rm rd rn rs t = (ql, tb, a, b, c, ve, qu, tu, bg, al, on) ∧ CT F L M n hm ms mp kd mo dy (lin (ltr tr nm pl mo dy kd) K n) ql tb a b c ve qu bg al on := by
  obtain ⟨ve0, qu0, tu0, e1, e2, e3⟩ := cu_eq (fve := fve) (fqu := fqu) (ftu := ftu) h hm6 hM hn hP hR hK
  obtain ⟨g, e4, e5⟩ := op_open (fal := ffal) (F := nI F) (L := nI L) hM
  have hll := lin_len (lt := ltr tr nm pl mo dy kd) (K := K) n
  have hj : jd F L M hm ms mp kd mo dy ((lin (ltr tr nm pl mo dy kd) K n).drop ((lin (ltr tr nm pl mo dy kd) K n).length - 0)) = (okF, fun _ => 3) := by
    rw [Nat.sub_zero, List.drop_length, jd]
  obtain ⟨tb', ve', bg', al', on', e6, e7⟩ := cj_L (F := F) (L := L) (M := M) (n := n) (hm := hm) (ms := ms) (mp := mp) (kd := kd) (mo := mo) (dy := dy) (l := lin (ltr tr nm pl mo dy kd) K n) (fve := fve) (fqu := fqu) (fcb := fcb) (ffal := ffal) (ffon := ffon) (pn := pn) (pt := pt) (rp := rp) (rk := rk) (rm := rm) (rd := rd) (rn := rn) (rs := rs) (qu := qu0) (ftu := ftu) (tu := tu0) (am := nI M) (af := nI F) (alx := nI L) (t := t) hn hM1 hM hF1 hL1 hF hL (fun j hj => by
      obtain ⟨a1, a2, a3, a4, a5⟩ := h.2.2 j hj
      obtain ⟨b1, b2, b3, b4⟩ := hR j hj
      exact ⟨a2, a4, a5, b2, b3, b4⟩) (fun x hx => (lin_mem hx).1) (by omega) (lin_nodup n) e3 (lin (ltr tr nm pl mo dy kd) K n).length 0 1000000000 0 ve0 g ffon (by omega) (by omega) (by
      rw [hj]
      intro j hj
      rw [b_0]
      simp) (by
      rw [hj]
      intro j hj
      rw [e2 j hj]
      rfl) (by rw [hj]; exact e5) hZ
  refine ⟨_, _, _, _, _, _, _, _, _, _, tu0, ?_, e7⟩
  unfold fX1_judge
  rw [cal_b, cal_b, e1, e4]
  rw [nI_0] at e6
  exact e6
