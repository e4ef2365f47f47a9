/-! how many calendars are left, as the reference counts them -/
def rbF (F L run kind : Int) : Int := if kind = 1 then (if run ≤ 5 then (if F < run + 1 then -1 else run + 1) else (if F < 1 then -1 else 1)) else (if 5 < run then (if L < run - 4 then -1 else run + 1) else (if L < 1 then -1 else 6))
def opB (br : Int32) (mu le pi : Nat → Int32) (m f : Nat) : Bool := decide (br.toInt = 0 ∧ ((mu m).toInt = -1 ∨ (mu m).toInt = 29 * (m : Int) + f) ∧ (le m).toInt ≤ 29 * (m : Int) + f ∧ ((pi m).toInt = -1 ∨ (pi m).toInt = 29 * (m : Int) + f))
def cwN (op : Nat → Nat → Bool) (F L : Int) : Nat → Nat → Nat → Int → Int
  | 0, m, f, _ => if op m f = true then 1 else 0
  | d + 1, m, f, run => if op m f = true then (if rbF F L run 0 = -1 then 0 else cwN op F L d (m + 1) f (rbF F L run 0)) + (if rbF F L run 1 = -1 then 0 else cwN op F L d (m + 1) (f + 1) (rbF F L run 1)) else 0
theorem cw_b (op : Nat → Nat → Bool) (F L : Int) : ∀ (d m f : Nat) (run : Int), 0 ≤ cwN op F L d m f run ∧ cwN op F L d m f run ≤ (2 ^ d : Nat) := by
  intro d
  induction d with
  | zero =>
    intro m f run
    rw [cwN]
    split <;> simp
  | succ d ih =>
    intro m f run
    rw [cwN]
    have h1 := ih (m + 1) f (rbF F L run 0)
    have h2 := ih (m + 1) (f + 1) (rbF F L run 1)
    have h3 : ((2 ^ (d + 1) : Nat) : Int) = ((2 ^ d : Nat) : Int) + ((2 ^ d : Nat) : Int) := by rw [Nat.pow_succ]; omega
    rw [h3]
    have h4 : (0 : Int) ≤ ((2 ^ d : Nat) : Int) := Int.natCast_nonneg _
    split
    · split <;> split <;> constructor <;> omega
    · constructor <;> omega
def wbF (ways : Nat → Int32) (F L m f run kind : Int) : Int := if rbF F L run kind = -1 then 0 else (ways (275 * (m + 1) + 11 * (f + kind) + rbF F L run kind).toNat).toInt
def cwT (ways : Nat → Int32) (op : Nat → Nat → Bool) (F L mo m full run : Int) : Prop := ∀ m' f r : Nat, (m' : Int) ≤ mo → f ≤ m' → r ≤ 10 → (m < (m' : Int) ∨ (m = (m' : Int) ∧ ((f : Int) < full ∨ ((f : Int) = full ∧ (r : Int) < run)))) → (ways (275 * m' + 11 * f + r)).toInt = cwN op F L (mo.toNat - m') m' f r
theorem cwT_a (ways : Nat → Int32) (op : Nat → Nat → Bool) (F L mo : Int) : cwT ways op F L mo mo 0 0 := by
  intro m' f r h1 h2 h3 h4
  omega
theorem cwT_b {ways : Nat → Int32} {op : Nat → Nat → Bool} {F L mo m full run m2 : Int} (h : cwT ways op F L mo m full run) (hf : m < full) (hm : m2 = m - 1) : cwT ways op F L mo m2 0 0 := by
  intro m' f r h1 h2 h3 h4
  exact h m' f r h1 h2 h3 (by omega)
theorem cwT_c {ways : Nat → Int32} {op : Nat → Nat → Bool} {F L mo m full run full2 : Int} (h : cwT ways op F L mo m full run) (hr : 10 < run) (hf : full2 = full + 1) : cwT ways op F L mo m full2 0 := by
  intro m' f r h1 h2 h3 h4
  exact h m' f r h1 h2 h3 (by omega)
theorem cwT_d {ways ways' : Nat → Int32} {op : Nat → Nat → Bool} {F L mo m full run run2 : Int} {i v : Int32} (h : cwT ways op F L mo m full run) (e : upd ways i.toNatClampNeg v = ways') (hi : i.toInt = 275 * m + 11 * full + run) (hm : 0 ≤ m ∧ m ≤ mo ∧ mo ≤ 24) (hf : 0 ≤ full ∧ full ≤ m) (hr : 0 ≤ run ∧ run ≤ 10) (hv : v.toInt = cwN op F L (mo.toNat - m.toNat) m.toNat full.toNat run) (hn : run2 = run + 1) : cwT ways' op F L mo m full run2 := by
  intro m' f r h1 h2 h3 h4
  rw [← e]
  unfold upd
  have hi2 : i.toNatClampNeg = 275 * m.toNat + 11 * full.toNat + run.toNat := by show i.toInt.toNat = _; omega
  rw [hi2]
  by_cases hj : 275 * m' + 11 * f + r = 275 * m.toNat + 11 * full.toNat + run.toNat
  · rw [if_pos hj, hv]
    have e1 : m' = m.toNat := by omega
    have e2 : f = full.toNat := by omega
    have e3 : (r : Int) = run := by omega
    rw [e1, e2, e3]
  · rw [if_neg hj]
    exact h m' f r h1 h2 h3 (by omega)
theorem cw_v0 {op : Nat → Nat → Bool} {F L run : Int} {d m f : Nat} (h : op m f = false) : cwN op F L d m f run = 0 := by
  cases d with
  | zero => rw [cwN, h]; rfl
  | succ d => rw [cwN, h]; rfl
theorem cw_v1 {op : Nat → Nat → Bool} {F L run : Int} {d m f : Nat} (h : op m f = true) (hd : d = 0) : cwN op F L d m f run = 1 := by
  rw [hd, cwN, h]
  rfl
theorem rb_rng {F L run kind : Int} (hF : 0 ≤ F ∧ F ≤ 5) (hL : 0 ≤ L ∧ L ≤ 5) (hr : 0 ≤ run ∧ run ≤ 10) (h : ¬ rbF F L run kind = -1) : 1 ≤ rbF F L run kind ∧ rbF F L run kind ≤ 10 := by
  unfold rbF at h ⊢
  by_cases h1 : kind = 1
  · rw [if_pos h1] at h ⊢
    by_cases h2 : run ≤ 5
    · rw [if_pos h2] at h ⊢
      by_cases h3 : F < run + 1
      · exact absurd (if_pos h3) h
      · rw [if_neg h3]; omega
    · rw [if_neg h2] at h ⊢
      by_cases h3 : F < 1
      · exact absurd (if_pos h3) h
      · rw [if_neg h3]; omega
  · rw [if_neg h1] at h ⊢
    by_cases h2 : 5 < run
    · rw [if_pos h2] at h ⊢
      by_cases h3 : L < run - 4
      · exact absurd (if_pos h3) h
      · rw [if_neg h3]; omega
    · rw [if_neg h2] at h ⊢
      by_cases h3 : L < 1
      · exact absurd (if_pos h3) h
      · rw [if_neg h3]; omega
theorem cw_wb {ways : Nat → Int32} {op : Nat → Nat → Bool} {F L mo m full run : Int} {d : Nat} (h : cwT ways op F L mo m full run) (hF : 0 ≤ F ∧ F ≤ 5) (hL : 0 ≤ L ∧ L ≤ 5) (hm : 0 ≤ m ∧ m < mo) (hf : 0 ≤ full ∧ full ≤ m) (hr : 0 ≤ run ∧ run ≤ 10) (hd : mo.toNat - m.toNat = d + 1) (kind : Int) (hk : kind = 0 ∨ kind = 1) : wbF ways F L m full run kind = if rbF F L run kind = -1 then 0 else cwN op F L d (m.toNat + 1) (full.toNat + kind.toNat) (rbF F L run kind) := by
  unfold wbF
  by_cases hb : rbF F L run kind = -1
  · rw [if_pos hb, if_pos hb]
  · rw [if_neg hb, if_neg hb]
    have h1 := rb_rng hF hL hr hb
    have h2 := h (m.toNat + 1) (full.toNat + kind.toNat) (rbF F L run kind).toNat (by omega) (by omega) (by omega) (by omega)
    rw [show (275 * (m + 1) + 11 * (full + kind) + rbF F L run kind).toNat = 275 * (m.toNat + 1) + 11 * (full.toNat + kind.toNat) + (rbF F L run kind).toNat by omega, h2, show mo.toNat - (m.toNat + 1) = d by omega, show (((rbF F L run kind).toNat : Nat) : Int) = rbF F L run kind by omega]
theorem cw_v2 {ways : Nat → Int32} {op : Nat → Nat → Bool} {F L mo m full run : Int} {x y z : Int32} (h : cwT ways op F L mo m full run) (hF : 0 ≤ F ∧ F ≤ 5) (hL : 0 ≤ L ∧ L ≤ 5) (hm : 0 ≤ m ∧ m < mo ∧ mo ≤ 24) (hf : 0 ≤ full ∧ full ≤ m) (hr : 0 ≤ run ∧ run ≤ 10) (ho : op m.toNat full.toNat = true) (hx : x.toInt = wbF ways F L m full run 0) (hy : y.toInt = wbF ways F L m full run 1) (hz : z = x + y) : z.toInt = cwN op F L (mo.toNat - m.toNat) m.toNat full.toNat run := by
  obtain ⟨d, hd⟩ : ∃ d, mo.toNat - m.toNat = d + 1 := ⟨mo.toNat - m.toNat - 1, by omega⟩
  rw [cw_wb h hF hL ⟨hm.1, hm.2.1⟩ hf hr hd 0 (Or.inl rfl)] at hx
  rw [cw_wb h hF hL ⟨hm.1, hm.2.1⟩ hf hr hd 1 (Or.inr rfl)] at hy
  have hx : x.toInt = if rbF F L run 0 = -1 then 0 else cwN op F L d (m.toNat + 1) full.toNat (rbF F L run 0) := hx
  have hy : y.toInt = if rbF F L run 1 = -1 then 0 else cwN op F L d (m.toNat + 1) (full.toNat + 1) (rbF F L run 1) := hy
  have b1 := cw_b op F L d (m.toNat + 1) full.toNat (rbF F L run 0)
  have b2 := cw_b op F L d (m.toNat + 1) (full.toNat + 1) (rbF F L run 1)
  have hp : (2 ^ d : Nat) ≤ 2 ^ 24 := Nat.pow_le_pow_right (by decide) (by omega)
  have hp : ((2 ^ d : Nat) : Int) ≤ 16777216 := by
    have : (2 ^ 24 : Nat) = 16777216 := by decide
    omega
  have bx : 0 ≤ x.toInt ∧ x.toInt ≤ 16777216 := by
    rw [hx]
    split
    · omega
    · omega
  have by' : 0 ≤ y.toInt ∧ y.toInt ≤ 16777216 := by
    rw [hy]
    split
    · omega
    · omega
  rw [gi_addI hz (by omega) (by omega), hd, cwN, ho, if_pos rfl, hx, hy]
def CW (br : Int32) (mu le pi : Nat → Int32) (mo F L : Int32) : Int := cwN (opB br mu le pi) F.toInt L.toInt mo.toInt.toNat 0 0 0
theorem cw_end {ways : Nat → Int32} {br : Int32} {mu le pi : Nat → Int32} {mo F L : Int32} {m full run : Int} (h : cwT ways (opB br mu le pi) F.toInt L.toInt mo.toInt m full run) (hm : m < 0) (hmo : 0 ≤ mo.toInt) : (ways 0).toInt = CW br mu le pi mo F L := by
  have h1 := h 0 0 0 (by omega) (by omega) (by omega) (by omega)
  rw [Nat.sub_zero] at h1
  exact h1
theorem cw_br {br : Int32} {mu le pi : Nat → Int32} {mo F L : Int32} (h : 0 < CW br mu le pi mo F L) : br = 0 := by
  by_cases hb : br.toInt = 0
  · exact Int32.toInt_inj.mp (by rw [hb]; decide)
  · have h1 : opB br mu le pi 0 0 = false := by unfold opB; simp [hb]
    unfold CW at h
    rw [cw_v0 h1] at h
    omega
/-- nothing is asked: there is one -/
theorem cw_pos {op : Nat → Nat → Bool} {F L : Int} (hF : 1 ≤ F) (hL : 1 ≤ L) : ∀ (d m f : Nat) (run : Int), (∀ m' f' : Nat, m ≤ m' → m' ≤ m + d → op m' f' = true) → 0 < cwN op F L d m f run := by
  intro d
  induction d with
  | zero =>
    intro m f run ho
    rw [cwN, ho m f (by omega) (by omega)]
    decide
  | succ d ih =>
    intro m f run ho
    have h1 := ih (m + 1) f (rbF F L run 0) (fun m' f' h1 h2 => ho m' f' (by omega) (by omega))
    have h2 := ih (m + 1) (f + 1) (rbF F L run 1) (fun m' f' h1 h2 => ho m' f' (by omega) (by omega))
    rw [cwN, ho m f (by omega) (by omega), if_pos rfl]
    by_cases hr : run ≤ 5
    · have e : rbF F L run 0 = 6 := by
        unfold rbF
        rw [if_neg (by decide), if_neg (by omega), if_neg (by omega)]
      rw [if_neg (by rw [e]; decide)]
      split <;> omega
    · have e : rbF F L run 1 = 1 := by
        unfold rbF
        rw [if_pos rfl, if_neg hr, if_neg (by omega)]
      rw [if_neg (show ¬ rbF F L run 1 = -1 by rw [e]; decide)]
      split <;> omega
theorem cw_free {br : Int32} {mu le pi : Nat → Int32} {mo F L : Int32} (hb : br.toInt = 0) (h1 : ∀ j : Nat, (j : Int) < 25 → mu j = (-1)) (h2 : ∀ j : Nat, (j : Int) < 25 → le j = 0) (h3 : ∀ j : Nat, (j : Int) < 25 → pi j = (-1)) (hm : mo.toInt ≤ 24) (hF : 1 ≤ F.toInt) (hL : 1 ≤ L.toInt) : 0 < CW br mu le pi mo F L := by
  refine cw_pos hF hL _ 0 0 0 (fun m f h4 h5 => ?_)
  have e1 : (-1 : Int32).toInt = -1 := by decide
  have e2 : (0 : Int32).toInt = 0 := by decide
  exact decide_eq_true ⟨hb, Or.inl (by rw [h1 m (by omega)]; decide), by rw [h2 m (by omega), e2]; omega, Or.inl (by rw [h3 m (by omega)]; decide)⟩
theorem opB_yes {br : Int32} {mu le pi : Nat → Int32} {m day : Int32} {f : Int} (hb : br.toInt = 0) (h : ((mu m.toNatClampNeg).toInt = -1 ∨ (mu m.toNatClampNeg).toInt = day.toInt) ∧ (le m.toNatClampNeg).toInt ≤ day.toInt ∧ ((pi m.toNatClampNeg).toInt = -1 ∨ (pi m.toNatClampNeg).toInt = day.toInt)) (hd : day.toInt = 29 * m.toInt + f) (hm : 0 ≤ m.toInt) (hf : 0 ≤ f) : opB br mu le pi m.toInt.toNat f.toNat = true := by
  unfold opB
  have e : m.toNatClampNeg = m.toInt.toNat := rfl
  rw [e] at h
  have e1 : ((m.toInt.toNat : Nat) : Int) = m.toInt := by omega
  have e2 : ((f.toNat : Nat) : Int) = f := by omega
  rw [e1, e2, ← hd]
  simp only [decide_eq_true_eq]
  exact ⟨hb, h.1, h.2.1, h.2.2⟩
theorem opB_no {br : Int32} {mu le pi : Nat → Int32} {m day : Int32} {f : Int} (h : ¬ br.toInt = 0 ∨ ¬ (((mu m.toNatClampNeg).toInt = -1 ∨ (mu m.toNatClampNeg).toInt = day.toInt) ∧ (le m.toNatClampNeg).toInt ≤ day.toInt ∧ ((pi m.toNatClampNeg).toInt = -1 ∨ (pi m.toNatClampNeg).toInt = day.toInt))) (hd : day.toInt = 29 * m.toInt + f) (hm : 0 ≤ m.toInt) (hf : 0 ≤ f) : opB br mu le pi m.toInt.toNat f.toNat = false := by
  unfold opB
  have e : m.toNatClampNeg = m.toInt.toNat := rfl
  rw [e] at h
  have e1 : ((m.toInt.toNat : Nat) : Int) = m.toInt := by omega
  have e2 : ((f.toNat : Nat) : Int) = f := by omega
  rw [e1, e2, ← hd]
  simp only [decide_eq_false_iff_not]
  rintro ⟨a, b, c, d⟩
  rcases h with h | h
  · exact h a
  · exact h ⟨b, c, d⟩
theorem gz_ofI {z : Int} (h1 : -2147483648 ≤ z) (h2 : z ≤ 2147483647) : (Int32.ofInt z).toInt = z := by
  rw [Int32.toInt_ofInt]
  exact gi_bm h1 h2
theorem fl_step {f f' : Nat → Int32} {k k2 v : Int32} (h : ∀ j : Nat, (j : Int) < k.toInt → f j = v) (e : upd f k.toNatClampNeg v = f') (hk : 0 ≤ k.toInt) (h2 : k2.toInt = k.toInt + 1) : ∀ j : Nat, (j : Int) < k2.toInt → f' j = v := by
  intro j hj
  rw [← e]
  unfold upd
  have h3 : (k.toNatClampNeg : Int) = k.toInt := by show ((k.toInt.toNat : Nat) : Int) = _; omega
  by_cases hjk : j = k.toNatClampNeg
  · rw [if_pos hjk]
  · rw [if_neg hjk]
    exact h j (by omega)
theorem rs_row {f0 f1 f2 : Nat → Int32} {x y w : Int32} (h : ∀ j : Nat, j ≠ y.toNatClampNeg → f1 j = f0 j) (ex : x = y) (ew : w = f0 x.toNatClampNeg) (e : upd f1 x.toNatClampNeg w = f2) : f2 = f0 := by
  funext j
  rw [← e]
  unfold upd
  by_cases hj : j = x.toNatClampNeg
  · rw [if_pos hj, ew, hj]
  · rw [if_neg hj]
    exact h j (fun h2 => hj (by rw [ex]; exact h2))

