def ins (lt : Nat → Nat → Bool) (r : Nat) : List Nat → List Nat
  | [] => [r]
  | q :: l => if lt r q = true then q :: ins lt r l else r :: q :: l
theorem ins_len (lt : Nat → Nat → Bool) (r : Nat) : ∀ l : List Nat, (ins lt r l).length = l.length + 1 := by
  intro l
  induction l with
  | nil => rfl
  | cons q l ih =>
    rw [ins]
    split
    · rw [List.length_cons, ih, List.length_cons]
    · rw [List.length_cons]
theorem ins_mem {lt : Nat → Nat → Bool} {r x : Nat} : ∀ {l : List Nat}, x ∈ ins lt r l → x = r ∨ x ∈ l := by
  intro l
  induction l with
  | nil =>
    intro h
    rw [ins, List.mem_singleton] at h
    exact Or.inl h
  | cons q l ih =>
    intro h
    rw [ins] at h
    split at h
    · rw [List.mem_cons] at h
      rcases h with h | h
      · exact Or.inr (List.mem_cons.mpr (Or.inl h))
      · rcases ih h with h | h
        · exact Or.inl h
        · exact Or.inr (List.mem_cons.mpr (Or.inr h))
    · rw [List.mem_cons] at h
      exact h
def lin (lt : Nat → Nat → Bool) (K : Nat → Bool) : Nat → List Nat
  | 0 => []
  | n + 1 => if K n = true then ins lt n (lin lt K n) else lin lt K n
theorem lin_mem {lt : Nat → Nat → Bool} {K : Nat → Bool} {x : Nat} : ∀ {n : Nat}, x ∈ lin lt K n → x < n ∧ K x = true := by
  intro n
  induction n with
  | zero =>
    intro h
    rw [lin] at h
    exact absurd h (List.not_mem_nil)
  | succ n ih =>
    intro h
    rw [lin] at h
    split at h
    · rename_i hk
      rcases ins_mem h with h | h
      · rw [h]
        exact ⟨by omega, hk⟩
      · exact ⟨by have := (ih h).1; omega, (ih h).2⟩
    · exact ⟨by have := (ih h).1; omega, (ih h).2⟩
theorem lin_len {lt : Nat → Nat → Bool} {K : Nat → Bool} : ∀ n : Nat, (lin lt K n).length ≤ n := by
  intro n
  induction n with
  | zero => rw [lin]; exact Nat.le_refl 0
  | succ n ih =>
    rw [lin]
    split
    · rw [ins_len]; omega
    · omega
theorem lin_cong {lt : Nat → Nat → Bool} {K K' : Nat → Bool} : ∀ n : Nat, (∀ j, j < n → K j = K' j) → lin lt K n = lin lt K' n := by
  intro n
  induction n with
  | zero => intro _; rfl
  | succ n ih =>
    intro h
    rw [lin, lin, h n (by omega), ih (fun j hj => h j (by omega))]
def Rg (f : Nat → Int32) : List Nat → Prop
  | [] => True
  | x :: l => f l.length = nI x ∧ Rg f l
def Tg (tn : Nat → Nat) (f : Nat → Int64) : List Nat → Prop
  | [] => True
  | x :: l => f l.length = lN (tn x) ∧ Tg tn f l
theorem Rg_cong {f g : Nat → Int32} : ∀ {l : List Nat}, (∀ j, j < l.length → g j = f j) → Rg f l → Rg g l := by
  intro l
  induction l with
  | nil => intro _ h; exact h
  | cons q l ih =>
    intro h1 h2
    rw [List.length_cons] at h1
    exact ⟨by rw [h1 _ (by omega)]; exact h2.1, ih (fun j hj => h1 j (by omega)) h2.2⟩
theorem Tg_cong {tn : Nat → Nat} {f g : Nat → Int64} : ∀ {l : List Nat}, (∀ j, j < l.length → g j = f j) → Tg tn f l → Tg tn g l := by
  intro l
  induction l with
  | nil => intro _ h; exact h
  | cons q l ih =>
    intro h1 h2
    rw [List.length_cons] at h1
    exact ⟨by rw [h1 _ (by omega)]; exact h2.1, ih (fun j hj => h1 j (by omega)) h2.2⟩
theorem vpL_at (f : Nat → Int64) (i : Nat) (v : Int64) (j : Nat) : vp_updL f i v j = if j = i then v else f j := rfl
theorem ci_s (a : Int32) (f : Nat → Int32) (g : Nat → Int64) (p : Int32) (t : Int64) (z : Nat) (v : Int32) (w : Nat → Int32) (u : Nat → Int64) : lfX1_insert a f g p t (z + 1) v w u = dfX1_insert_6 a f g p t (lfX1_insert a f g p t z) v w u := rfl
theorem ci_L {a : Int32} {f : Nat → Int32} {g : Nat → Int64} {lt : Nat → Nat → Bool} {tn : Nat → Nat} {r : Nat} : ∀ (l : List Nat) (z : Nat) (w : Nat → Int32) (u : Nat → Int64), l.length ≤ 24 → (∀ q, q ∈ l → (lN (tn q) ≤ lN (tn r) ↔ ¬ lt r q = true)) → Rg w l → Tg tn u l → l.length < z → ∃ (w' : Nat → Int32) (u' : Nat → Int64), lfX1_insert a f g (nI r) (lN (tn r)) z (nI l.length) w u = (a + (1 : Int32), w', u') ∧ Rg w' (ins lt r l) ∧ Tg tn u' (ins lt r l) ∧ ∀ j, l.length < j → w' j = w j ∧ u' j = u j := by
  intro l
  induction l with
  | nil =>
    intro z w u h24 hq hw hu hz
    obtain ⟨z, rfl⟩ : ∃ y, z = y + 1 := ⟨z - 1, by omega⟩
    refine ⟨upd w 0 (nI r), vp_updL u 0 (lN (tn r)), ?_, ⟨if_pos rfl, trivial⟩, ⟨if_pos rfl, trivial⟩, fun j hj => ⟨if_neg (by rw [List.length_nil] at hj; omega), if_neg (by rw [List.length_nil] at hj; omega)⟩⟩
    rw [ci_s]
    unfold dfX1_insert_6 bfX1_insert_63
    rw [List.length_nil, if_pos (by rw [nI_0]; exact Int32.le_refl 0), nI_clamp (by omega)]
  | cons q l ih =>
    intro z w u h24 hq hw hu hz
    obtain ⟨z, rfl⟩ : ∃ y, z = y + 1 := ⟨z - 1, by omega⟩
    rw [List.length_cons] at h24 hz ⊢
    have hqq := hq q (List.mem_cons.mpr (Or.inl rfl))
    rw [ci_s]
    unfold dfX1_insert_6 bfX1_insert_63
    rw [if_neg (nI_nle (by omega) (by omega)), nI_pred, nI_clamp (show l.length < 2 ^ 31 by omega), nI_clamp (show l.length + 1 < 2 ^ 31 by omega), hu.1, hw.1]
    by_cases hlt : lt r q = true
    · rw [if_neg (fun h => hqq.1 ((lg_cmp_le _ _).1 h) hlt)]
      have e : nI (l.length + 1) + (-1 : Int32) = nI l.length := by
        rw [show (-1 : Int32) = - (1 : Int32) from rfl, ← Int32.sub_eq_add_neg, nI_pred]
      rw [e]
      obtain ⟨w', u', e1, e2, e3, e4⟩ := ih z (upd w (l.length + 1) (nI q)) (vp_updL u (l.length + 1) (lN (tn q))) (by omega) (fun x hx => hq x (List.mem_cons.mpr (Or.inr hx))) (Rg_cong (fun j hj => if_neg (by omega)) hw.2) (Tg_cong (fun j hj => if_neg (by omega)) hu.2) (by omega)
      refine ⟨w', u', e1, ?_, ?_, fun j hj => ?_⟩
      · rw [ins, if_pos hlt]
        refine ⟨?_, e2⟩
        rw [ins_len, (e4 (l.length + 1) (by omega)).1]
        exact if_pos rfl
      · rw [ins, if_pos hlt]
        refine ⟨?_, e3⟩
        rw [ins_len, (e4 (l.length + 1) (by omega)).2]
        exact if_pos rfl
      · obtain ⟨q1, q2⟩ := e4 j (by omega)
        exact ⟨by rw [q1]; exact if_neg (by omega), by rw [q2]; exact if_neg (by omega)⟩
    · rw [if_pos ((lg_cmp_le _ _).2 (hqq.2 hlt))]
      refine ⟨_, _, rfl, ?_, ?_, fun j hj => ⟨if_neg (by omega), if_neg (by omega)⟩⟩
      · rw [ins, if_neg hlt]
        refine ⟨if_pos rfl, ?_⟩
        exact Rg_cong (f := w) (fun j hj => if_neg (by rw [List.length_cons] at hj; omega)) hw
      · rw [ins, if_neg hlt]
        refine ⟨if_pos rfl, ?_⟩
        exact Tg_cong (f := u) (fun j hj => if_neg (by rw [List.length_cons] at hj; omega)) hu
def tnN (tr nm pl mo dy kd : Nat → Nat) (r : Nat) : Nat := (((((9 - tr (pl r)) * 387420489 + nm (pl r)) * 24 + mo r) * 1000 + dy r) * 3 + kd r) * 24 + r
def ltr (tr nm pl mo dy kd : Nat → Nat) (r q : Nat) : Bool := decide (tnN tr nm pl mo dy kd r < tnN tr nm pl mo dy kd q)
def RW (M n m : Nat) (tr nm pl kd mo dy : Nat → Nat) : Prop := (∀ p, p < m → tr p ≤ 9 ∧ nm p < 387420489) ∧ (∀ p q, p < m → q < m → nm p = nm q → p = q) ∧ ∀ j, j < n → pl j < m ∧ kd j ≤ 2 ∧ 1 ≤ mo j ∧ mo j < M ∧ dy j ≤ 999
theorem tn_lt {M n m : Nat} {tr nm pl kd mo dy : Nat → Nat} (h : RW M n m tr nm pl kd mo dy) (hM : M ≤ 24) (hn : n ≤ 24) {r : Nat} (hr : r < n) : tnN tr nm pl mo dy kd r < 10000000000000000 := by
  obtain ⟨h1, _, h3⟩ := h
  obtain ⟨a1, a2, a3, a4, a5⟩ := h3 r hr
  obtain ⟨b1, b2⟩ := h1 _ a1
  unfold tnN
  omega
theorem ct_turn {M n m : Nat} {tr nm pl kd mo dy : Nat → Nat} {pn pt rp rk rm rd : Nat → Int32} (h : RW M n m tr nm pl kd mo dy) (hm6 : m ≤ 6) (hM : M ≤ 24) (hn : n ≤ 24) (hP : ∀ p, p < m → pt p = nI (tr p) ∧ pn p = nI (nm p)) (hR : ∀ j, j < n → rp j = nI (pl j) ∧ rk j = nI (kd j) ∧ rm j = nI (mo j) ∧ rd j = nI (dy j)) {r : Nat} (hr : r < n) : fX1_turnOf pn pt rp rk rm rd (nI r) = lN (tnN tr nm pl mo dy kd r) := by
  obtain ⟨h1, _, h3⟩ := h
  obtain ⟨a1, a2, a3, a4, a5⟩ := h3 r hr
  obtain ⟨b1, b2⟩ := h1 _ a1
  obtain ⟨c1, c2, c3, c4⟩ := hR r hr
  obtain ⟨d1, d2⟩ := hP _ a1
  unfold fX1_turnOf
  rw [nI_clamp (by omega), c1, nI_clamp (by omega), d1, d2, c2, c3, c4, show (9 : Int32) = nI 9 from rfl, pk_sub b1, nI_l (by omega), nI_l (by omega), nI_l (by omega), nI_l (by omega), nI_l (by omega), nI_l (by omega), show (387420489 : Int64) = lN 387420489 from rfl, show (24 : Int64) = lN 24 from rfl, show (1000 : Int64) = lN 1000 from rfl, show (3 : Int64) = lN 3 from rfl]
  simp only [lN_mul, lN_add]
  rfl
theorem lN_le63 {a b : Nat} (ha : a < 2 ^ 62) (hb : b < 2 ^ 62) : lN a ≤ lN b ↔ a ≤ b := by
  have h1 : (lN a).toInt = (a : Int) := lg_ofNat_toInt (by omega)
  have h2 : (lN b).toInt = (b : Int) := lg_ofNat_toInt (by omega)
  rw [Int64.le_iff_toInt_le, h1, h2]
  omega
theorem tn_cmp {M n m : Nat} {tr nm pl kd mo dy : Nat → Nat} (h : RW M n m tr nm pl kd mo dy) (hM : M ≤ 24) (hn : n ≤ 24) {r q : Nat} (hr : r < n) (hq : q < n) : lN (tnN tr nm pl mo dy kd q) ≤ lN (tnN tr nm pl mo dy kd r) ↔ ¬ ltr tr nm pl mo dy kd r q = true := by
  have h1 := tn_lt h hM hn hr
  have h2 := tn_lt h hM hn hq
  rw [lN_le63 (by omega) (by omega)]
  unfold ltr
  rw [decide_eq_true_eq]
  omega
