theorem io_eq (must least pin : Nat → Int32) (p x : Int32) : (¬ fX12_isOpen must least pin p x = 0) ↔ ((must p.toNatClampNeg = -1 ∨ must p.toNatClampNeg = x) ∧ ¬ x < least p.toNatClampNeg ∧ (pin p.toNatClampNeg = -1 ∨ pin p.toNatClampNeg = x)) := by
  have n1 : ¬ (1 : Int32) = 0 := by decide
  have hg : (¬ bfX12_isOpen_20 must least pin p x = 0) ↔ (¬ x < least p.toNatClampNeg ∧ (pin p.toNatClampNeg = -1 ∨ pin p.toNatClampNeg = x)) := by
    unfold bfX12_isOpen_20 bfX12_isOpen_54 bfX12_isOpen_50 bfX12_isOpen_55
    by_cases h1 : x < least p.toNatClampNeg
    · rw [if_pos h1]
      exact ⟨fun q => absurd rfl q, fun q => absurd h1 q.1⟩
    · rw [if_neg h1]
      by_cases h2 : pin p.toNatClampNeg = -1
      · rw [if_pos h2]
        exact ⟨fun _ => ⟨h1, Or.inl h2⟩, fun _ => n1⟩
      · rw [if_neg h2]
        by_cases h3 : pin p.toNatClampNeg = x
        · rw [if_pos h3]
          exact ⟨fun _ => ⟨h1, Or.inr h3⟩, fun _ => n1⟩
        · rw [if_neg h3]
          exact ⟨fun q => absurd rfl q, fun q => q.2.elim (fun w => absurd w h2) (fun w => absurd w h3)⟩
  unfold fX12_isOpen
  by_cases h1 : must p.toNatClampNeg = -1
  · rw [if_pos h1, hg]
    exact ⟨fun q => ⟨Or.inl h1, q⟩, fun q => q.2⟩
  · rw [if_neg h1]
    by_cases h2 : must p.toNatClampNeg = x
    · rw [if_pos h2, hg]
      exact ⟨fun q => ⟨Or.inr h2, q⟩, fun q => q.2⟩
    · rw [if_neg h2]
      unfold bfX12_isOpen_54 bfX12_isOpen_55
      exact ⟨fun q => absurd rfl q, fun q => q.1.elim (fun w => absurd w h1) (fun w => absurd w h2)⟩
def rOK (M : Nat) (ok : Nat → Nat → Bool) (must least : Nat → Int32) : Prop := ∀ m, m ≤ M → ∃ l, l ≤ 1001 ∧ least m = nI l ∧ (must m = -1 ∨ ∃ d, d ≤ 1000 ∧ must m = nI d) ∧ ∀ a, a ≤ m → (ok m a = true ↔ ((must m = -1 ∨ must m = nI (29 * m + a)) ∧ l ≤ 29 * m + a))
def pinF (pin : Nat → Int32) : Prop := ∀ m, m ≤ 24 → pin m = -1
theorem rOK_open {M : Nat} {ok : Nat → Nat → Bool} {must least pin : Nat → Int32} (hM : M ≤ 24) (h : rOK M ok must least) (hp : pinF pin) : ∀ m a : Nat, m ≤ M → a ≤ m → (ok m a = true ↔ ¬ fX12_isOpen must least pin (nI m) (nI (29 * m + a)) = 0) := by
  intro m a h1 h2
  obtain ⟨l, l1, l2, _, l3⟩ := h m h1
  rw [io_eq, nI_clamp (by omega), hp m (by omega), l2, l3 a h2]
  constructor
  · exact fun q => ⟨q.1, nI_nlt q.2 (by omega), Or.inl rfl⟩
  · intro q
    refine ⟨q.1, ?_⟩
    have q2 : ¬ 29 * m + a < l := fun w => q.2.1 (nI_lt w (by omega))
    omega
theorem rOK_cong {M : Nat} {ok : Nat → Nat → Bool} {must least must' least' : Nat → Int32} (h : rOK M ok must least) (e : ∀ m, m ≤ M → must' m = must m ∧ least' m = least m) : rOK M ok must' least' := by
  intro m hm
  rw [(e m hm).1, (e m hm).2]
  exact h m hm
theorem nIm1 {x : Nat} (h : x < 2 ^ 31) : ¬ nI x = (-1 : Int32) := by
  intro q
  have q1 := congrArg Int32.toInt q
  rw [nI_toInt h, show (-1 : Int32).toInt = -1 from by decide] at q1
  omega
theorem rh_eq {M k m d : Nat} {ok : Nat → Nat → Bool} {mi rm rd rk must least : Nat → Int32} {r : Nat} (h37 : mi 37 = 0) (hM : M ≤ 24) (hk : k ≤ 2) (hm : m ≤ M) (hd : d ≤ 999) (hr : r < 2 ^ 31) (ek : rk r = nI k) (em : rm r = nI m) (ed : rd r = nI d) (h : rOK M ok must least) : ∃ (b : Int32) (must' least' : Nat → Int32), fX12_holds mi rm rd rk must least (nI r) = (b, must', least') ∧ (∀ j, ¬ j = m → must' j = must j ∧ least' j = least j) ∧ (b = 0 → rOK M (nrw ok k m d) must' least') ∧ (¬ b = 0 → ∀ a, a ≤ m → nrw ok k m d m a = false) := by
  have hnr : ∀ m' a, ¬ m' = m → nrw ok k m d m' a = ok m' a := by
    intro m' a e
    unfold nrw
    simp [e]
  have hat : ∀ a, nrw ok k m d m a = (ok m a && rg k m d a) := by
    intro a
    unfold nrw
    simp
  have hmk : ∀ must' least' : Nat → Int32, (∀ j, ¬ j = m → must' j = must j ∧ least' j = least j) → (∃ l, l ≤ 1001 ∧ least' m = nI l ∧ (must' m = -1 ∨ ∃ d, d ≤ 1000 ∧ must' m = nI d) ∧ ∀ a, a ≤ m → ((ok m a && rg k m d a) = true ↔ ((must' m = -1 ∨ must' m = nI (29 * m + a)) ∧ l ≤ 29 * m + a))) → rOK M (nrw ok k m d) must' least' := by
    intro must' least' e1 e2 m' hm'
    by_cases e : m' = m
    · subst e
      obtain ⟨l, l1, l2, l3, l4⟩ := e2
      exact ⟨l, l1, l2, l3, fun a ha => by rw [hat]; exact l4 a ha⟩
    · obtain ⟨l, l1, l2, l3, l4⟩ := h m' hm'
      rw [(e1 m' e).1, (e1 m' e).2]
      exact ⟨l, l1, l2, l3, fun a ha => by rw [hnr m' a e]; exact l4 a ha⟩
  obtain ⟨l, l1, l2, l3, l4⟩ := h m hm
  unfold fX12_holds bfX12_holds_57 bfX12_holds_53 bfX12_holds_58 bfX12_holds_68 bfX12_holds_96
  rw [nI_clamp hr, ek, em, ed, nI_clamp (by omega), nI_1, h37]
  rcases (show k = 0 ∨ k = 1 ∨ k = 2 by omega) with rfl | rfl | rfl
  · rw [if_pos nI_0, if_pos rfl, if_neg (by decide : ¬ nI 0 = (1 : Int32)), if_neg (by decide : ¬ nI 0 = (1 : Int32))]
    have hrg : ∀ a, rg 0 m d a = decide (29 * m + a = d + 1) := by
      intro a
      unfold rg
      rw [if_neg (by decide), if_pos rfl]
    have hfr : ∀ j, ¬ j = m → upd must m (nI (d + 1)) j = must j ∧ least j = least j := fun j hj => ⟨if_neg hj, rfl⟩
    have hself : upd must m (nI (d + 1)) m = nI (d + 1) := if_pos rfl
    have hgood : (must m = -1 ∨ must m = nI (d + 1)) → rOK M (nrw ok 0 m d) (upd must m (nI (d + 1))) least := by
      intro hc
      refine hmk _ _ hfr ⟨l, l1, l2, Or.inr ⟨d + 1, by omega, hself⟩, fun a ha => ?_⟩
      rw [hself, hrg, Bool.and_eq_true, decide_eq_true_eq, l4 a ha]
      constructor
      · rintro ⟨⟨_, q2⟩, q3⟩
        exact ⟨Or.inr (by rw [q3]), q2⟩
      · rintro ⟨q1, q2⟩
        rcases q1 with q1 | q1
        · exact absurd q1 (nIm1 (by omega))
        · have q3 := (nI_eq (by omega) (by omega)).1 q1
          refine ⟨⟨?_, q2⟩, q3.symm⟩
          rcases hc with hc | hc
          · exact Or.inl hc
          · exact Or.inr (by rw [hc, q3])
    by_cases c1 : must m = -1
    · rw [if_pos c1]
      exact ⟨_, _, _, rfl, hfr, fun _ => hgood (Or.inl c1), fun q => absurd rfl q⟩
    · rw [if_neg c1]
      by_cases c2 : must m = nI (d + 1)
      · rw [if_pos c2]
        exact ⟨_, _, _, rfl, hfr, fun _ => hgood (Or.inr c2), fun q => absurd rfl q⟩
      · rw [if_neg c2]
        refine ⟨_, _, _, rfl, hfr, fun q => absurd q (by decide), fun _ a ha => ?_⟩
        rw [hat, hrg, Bool.and_eq_false_iff, decide_eq_false_iff_not]
        by_cases q : 29 * m + a = d + 1
        · left
          refine Bool.eq_false_iff.mpr (fun w => ?_)
          rcases ((l4 a ha).1 w).1 with w | w
          · exact c1 w
          · exact c2 (by rw [w, q])
        · exact Or.inr q
  · rw [if_neg (by decide : ¬ nI 1 = (0 : Int32)), if_pos (by decide : nI 1 = (1 : Int32)), nI_1, l2]
    have hrg : ∀ a, rg 1 m d a = decide (d + 1 < 29 * m + a) := by
      intro a
      unfold rg
      rw [if_neg (by decide), if_neg (by decide)]
    have hmax : (if nI l < nI (d + 1 + 1) then nI (d + 1 + 1) else nI l) = nI (if l < d + 2 then d + 2 else l) := by
      by_cases q : l < d + 2
      · rw [if_pos q, if_pos (nI_lt q (by omega))]
      · rw [if_neg q, if_neg (nI_nlt (by omega) (by omega))]
    rw [hmax]
    refine ⟨_, _, _, rfl, fun j hj => ⟨rfl, if_neg hj⟩, fun _ => hmk _ _ (fun j hj => ⟨rfl, if_neg hj⟩) ⟨if l < d + 2 then d + 2 else l, ?_, if_pos rfl, l3, fun a ha => ?_⟩, fun q => absurd rfl q⟩
    · split <;> omega
    · rw [hrg, Bool.and_eq_true, decide_eq_true_eq, l4 a ha]
      constructor
      · rintro ⟨⟨q1, q2⟩, q3⟩
        exact ⟨q1, by split <;> omega⟩
      · rintro ⟨q1, q2⟩
        refine ⟨⟨q1, ?_⟩, ?_⟩
        · split at q2 <;> omega
        · split at q2 <;> omega
  · rw [if_neg (by decide : ¬ nI 2 = (0 : Int32)), if_neg (by decide : ¬ nI 2 = (1 : Int32))]
    refine ⟨_, _, _, rfl, fun j hj => ⟨rfl, rfl⟩, fun _ => hmk _ _ (fun j hj => ⟨rfl, rfl⟩) ⟨l, l1, l2, l3, fun a ha => ?_⟩, fun q => absurd rfl q⟩
    have hrg : rg 2 m d a = true := by
      unfold rg
      rw [if_pos rfl]
    rw [hrg, Bool.and_true]
    exact l4 a ha
theorem wy_max {F L M : Nat} {ok : Nat → Nat → Bool} (hM : M ≤ 24) {d : Nat} (hd : d ≤ M) (m a r : Nat) : wy F L ok d m a r ≤ 16777216 := by
  have h1 := wy_le F L ok d m a r
  have h2 : 2 ^ d ≤ 2 ^ 24 := Nat.pow_le_pow_right (by decide) (by omega)
  have h3 : (2 : Nat) ^ 24 = 16777216 := by decide
  omega
theorem rj_go {F L M k m d : Nat} {ok : Nat → Nat → Bool} {mi must least pin ways rm rd rk : Nat → Int32} {hm ms mp : Int32} {r : Nat} (h0 : mi 0 = nI M) (h1 : mi 1 = nI F) (h2 : mi 2 = nI L) (h37 : mi 37 = 0) (hM : M ≤ 24) (hF : F ≤ 5) (hL : L ≤ 5) (hk : k ≤ 2) (hmM : m ≤ M) (hd : d ≤ 999) (hr : r < 2 ^ 31) (ek : rk r = nI k) (em : rm r = nI m) (ed : rd r = nI d) (h : rOK M ok must least) (hp : pinF pin) (he : ¬ eyb hm ms mp k m d = true) {c1 c2 c3 : Nat → Int32} : ∃ must' least' ways' : Nat → Int32, bfX12_judges_37 mi c1 c2 pin c3 rm rd rk (nI r) 0 must least ways = (nI (vst F L M hm ms mp ok k m d).1, 0, must', least', ways') ∧ rOK M (vst F L M hm ms mp ok k m d).2 must' least' := by
  have ev : vst F L M hm ms mp ok k m d = if 0 < wy F L (nrw ok k m d) M 0 0 0 then (0, nrw ok k m d) else (2, ok) := by
    unfold vst
    rw [if_neg he]
  obtain ⟨b, must', least', e1, e2, e3, e4⟩ := rh_eq (mi := upd mi 37 0) (if_pos rfl) hM hk hmM hd hr ek em ed h
  unfold bfX12_judges_37
  rw [cal_b, e1, cal_b]
  have hc : ∃ W : Nat, W ≤ 16777216 ∧ (fX12_counts (upd mi 37 b) must' least' pin ways).1 = nI W ∧ (0 < W ↔ 0 < wy F L (nrw ok k m d) M 0 0 0) ∧ (0 < W → b = 0) := by
    by_cases hb : b = 0
    · have q := (pc_counts (mi := upd mi 37 b) (must := must') (least := least') (pin := pin) (ways := ways) (F := F) (L := L) (M := M) (ok := nrw ok k m d) ((if_neg (by decide)).trans h0) hM ((if_neg (by decide)).trans h1) ((if_neg (by decide)).trans h2) hF hL (fun m' a' q1 q2 => by
        rw [rOK_open hM (e3 hb) hp m' a' q1 q2]
        exact ⟨fun q => ⟨(if_pos rfl : upd mi 37 b 37 = b).trans hb, q⟩, fun q => q.2⟩)).1
      exact ⟨_, wy_max hM (Nat.le_refl M) 0 0 0, q, Iff.rfl, fun _ => hb⟩
    · have q := (pc_counts (mi := upd mi 37 b) (must := must') (least := least') (pin := pin) (ways := ways) (F := F) (L := L) (M := M) (ok := fun _ _ => false) ((if_neg (by decide)).trans h0) hM ((if_neg (by decide)).trans h1) ((if_neg (by decide)).trans h2) hF hL (fun m' a' q1 q2 => by
        constructor
        · exact fun q => absurd q (by decide)
        · exact fun q => absurd ((if_pos rfl : upd mi 37 b 37 = b).symm.trans q.1) hb)).1
      have z1 : wy F L (fun _ _ => false) M 0 0 0 = 0 := wy_0 (by decide)
      have z2 : wy F L (nrw ok k m d) M 0 0 0 = 0 := wy_gap (M := M) (m0 := m) (e4 hb) M 0 0 0 (by omega) (by omega) (by omega)
      rw [z1] at q
      exact ⟨0, by omega, q, by rw [z2], fun q => absurd q (by omega)⟩
  obtain ⟨W, w1, w2, w3, w4⟩ := hc
  show ∃ must'' least'' ways' : Nat → Int32, (if (fX12_counts (upd mi 37 b) must' least' pin ways).1 ≤ (0 : Int32) then _ else _) = _ ∧ _
  rw [w2, nI_clamp hr, em, nI_clamp (show m < 2 ^ 31 by omega)]
  by_cases hW : 0 < W
  · rw [if_neg (nI_nle hW (by omega)), ev, if_pos (w3.1 hW), w4 hW]
    exact ⟨_, _, _, rfl, e3 (w4 hW)⟩
  · have hW0 : W = 0 := by omega
    rw [if_pos (by rw [hW0, nI_0]; exact Int32.le_refl 0), ev, if_neg (fun q => hW (w3.2 q))]
    refine ⟨_, _, _, rfl, rOK_cong h (fun m' hm' => ?_)⟩
    by_cases e : m' = m
    · rw [e]
      exact ⟨if_pos rfl, if_pos rfl⟩
    · exact ⟨(if_neg e).trans (e2 m' e).1, (if_neg e).trans (e2 m' e).2⟩
theorem rj_eq {F L M k m d : Nat} {ok : Nat → Nat → Bool} {mi must least pin ways rm rd rk : Nat → Int32} {r : Nat} (h0 : mi 0 = nI M) (h1 : mi 1 = nI F) (h2 : mi 2 = nI L) (h37 : mi 37 = 0) (hM : M ≤ 24) (hF : F ≤ 5) (hL : L ≤ 5) (hk : k ≤ 2) (hmM : m ≤ M) (hd : d ≤ 999) (hr : r < 2 ^ 31) (ek : rk r = nI k) (em : rm r = nI m) (ed : rd r = nI d) (h : rOK M ok must least) (hp : pinF pin) : ∃ must' least' ways' : Nat → Int32, fX12_judges mi must least pin ways rm rd rk (nI r) = (nI (vst F L M (mi 4) (mi 5) (mi 6) ok k m d).1, 0, must', least', ways') ∧ rOK M (vst F L M (mi 4) (mi 5) (mi 6) ok k m d).2 must' least' := by
  have hgo : ¬ eyb (mi 4) (mi 5) (mi 6) k m d = true → ∃ must' least' ways' : Nat → Int32, bfX12_judges_37 mi must least pin ways rm rd rk (nI r) 0 must least ways = (nI (vst F L M (mi 4) (mi 5) (mi 6) ok k m d).1, 0, must', least', ways') ∧ rOK M (vst F L M (mi 4) (mi 5) (mi 6) ok k m d).2 must' least' := fun he => rj_go h0 h1 h2 h37 hM hF hL hk hmM hd hr ek em ed h hp he
  have heq : eyb (mi 4) (mi 5) (mi 6) k m d = true ↔ (k = 0 ∧ ¬ mi 4 = 0 ∧ ¬ fX0_earlyOf (mi 5) (mi 6) (nI m) ≤ nI d) := by
    unfold eyb
    rw [decide_eq_true_eq]
  have hee : fX12_earlyOf mi (nI m) = fX0_earlyOf (mi 5) (mi 6) (nI m) := by
    unfold fX12_earlyOf fX0_earlyOf
    rfl
  unfold fX12_judges
  rw [nI_clamp hr, ek, em, ed, h37]
  by_cases c1 : mi 4 = 0
  · rw [if_pos c1]
    exact hgo (fun q => (heq.1 q).2.1 c1)
  · rw [if_neg c1]
    by_cases c0 : k = 0
    · rw [if_pos (by rw [c0]; rfl), cal_b, hee]
      by_cases c2 : fX0_earlyOf (mi 5) (mi 6) (nI m) ≤ nI d
      · rw [if_pos c2]
        exact hgo (fun q => (heq.1 q).2.2 c2)
      · rw [if_neg c2]
        have ev : vst F L M (mi 4) (mi 5) (mi 6) ok k m d = (1, ok) := by
          unfold vst
          rw [if_pos (heq.2 ⟨c0, c1, c2⟩)]
        rw [ev]
        exact ⟨_, _, _, rfl, h⟩
    · rw [if_neg (nI_ne0 (by omega) (by omega))]
      exact hgo (fun q => c0 (heq.1 q).1)
