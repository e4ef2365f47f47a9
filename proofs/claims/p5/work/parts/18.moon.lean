/-! a line's word, and the moon's line -/
theorem aExp_true (k : Int32) (a : aS) : aExp true k a = a := by
  unfold aExp
  split
  · rfl
  · rfl
/-- a fault of the reference at its token -/
def fp7 (p : M7) (k : Int32) : M7 := if p.2.2.2.2.2.2 = 0 then (k, p.2.2.2.1, p.2.2.1, p.2.2.2.1, p.2.2.2.2.1, p.2.2.2.2.2.1, 1) else p
theorem faults_fp {mi : Nat → Int32} {k : Int32} {o : Int32 × Int32 × Int32} (h : o = fX12_faults mi k) : (o.1, o.2.1, mi 29, mi 30, mi 31, mi 32, o.2.2) = fp7 (own7 mi) k := by
  rw [rx_faults] at h
  unfold fp7
  by_cases h1 : mi 33 = 0
  · rw [if_pos h1] at h
    subst h
    exact (if_pos h1).symm
  · rw [if_neg h1] at h
    subst h
    exact (if_neg h1).symm
theorem r_fault {t : Nat → Int} {n : Nat} {a : aS} {p : M7} (c : Bool) {k : Int32} (hk : k ≠ 0) (h : aR7 t n a p) : aR7 t n (aExp c k a) (if c = true then p else fp7 p k) := by
  cases c with
  | true =>
    rw [aExp_true, if_pos rfl]
    exact h
  | false =>
    rw [if_neg Bool.false_ne_true]
    unfold fp7
    unfold aR7 at h
    by_cases h1 : a.1 = true
    · rw [if_pos h1] at h
      rw [if_neg (by rw [h.2.1]; decide), show aExp false k a = a from if_pos h1]
      unfold aR7
      rw [if_pos h1]
      exact h
    · rw [if_neg h1] at h
      rw [if_pos h.2.1, show aExp false k a = aBad k (nI a.2.2.2) from if_neg h1]
      unfold aR7
      rw [if_pos (show (aBad k (nI a.2.2.2)).1 = true from rfl)]
      exact ⟨hk, rfl, rfl, h.2.2.2.2.2.2.1⟩
theorem q_head {n : Nat} {bt tp mi : Nat → Int32} {a : aS} {c : C5} {p : M7} {p1 : Int32} (hn : n ≤ 1600) (hT : TR n bt tp) (h : aQ n bt a c p) (b : Bool) (hb : p1 = if b = true then 1 else 0) {o : C5} (ho : o = fX6_passHead c.1 c.2.1 c.2.2.1 c.2.2.2.1 c.2.2.2.2 (nI n) bt p1) {F : M7} (hF : F = if b = true then p else fp7 p 3) {u : M7} (hu : u = fX12_passes mi tp 1) (h26 : mi 26 = nI n) (hp : own7 mi = F) : ∃ a', aQ n bt a' o u ∧ (a'.1 = false → a.1 = false ∧ b = true) := by
  subst ho hu
  have h1 := r_fault b (k := 3) (by decide) h.2
  rw [← hF, ← hp] at h1
  have h2 := rx_passes hn true (p1 := 1) (fun _ => rfl) ((tr_RR hT _ mi).mpr ⟨h26, h1⟩)
  rw [aExp_true, tr_step hT] at h2
  exact ⟨_, aQ_of hT (cx_head hn b hb h.1) h2, fun q => aExp_okb (aStep_ok q)⟩
theorem b_ite {x : Prop} [Decidable x] {α : Type} (u v : α) : (if x then u else v) = if decide x = true then u else v := by
  by_cases h : x
  · rw [if_pos h, if_pos (decide_eq_true h)]
  · rw [if_neg h, if_neg (fun q => h (of_decide_eq_true q))]
theorem ln_moon {n : Nat} {bt tp mi : Nat → Int32} {a : aS} {c : C5} {p : M7} (hn : n ≤ 1600) (hT : TR n bt tp) (h : aQ n bt a c p) {eh es ep : Int32} (hm : eh = mi 4) {X : Int32 × Int32 × Int32 × Int32 × Int32 × Int32 × Int32 × Int32} (hX : X = fX6_readMoon c.1 c.2.1 c.2.2.1 c.2.2.2.1 c.2.2.2.2 (nI n) bt eh es ep) {Y : Int32 × Int32 × Int32 × M7} (hY : Y = fX12_readsMoon mi tp) (h26 : mi 26 = nI n) (hp : own7 mi = p) : ∃ a', aQ n bt a' (X.1, X.2.1, X.2.2.1, X.2.2.2.1, X.2.2.2.2.1) Y.2.2.2 ∧ (a'.1 = false → a.1 = false ∧ X.2.2.2.2.2 = (Y.1, Y.2.1, Y.2.2.1) ∧ Y.1 = 1) := by
  have hX : X = bfX6_readMoon_16 c.1 c.2.1 c.2.2.1 c.2.2.2.1 c.2.2.2.2 (nI n) bt eh es ep (if eh = 0 then 1 else 0) c.1 c.2.1 c.2.2.1 c.2.2.2.1 c.2.2.2.2 eh es ep := by
    rw [hX]
    unfold fX6_readMoon
    split
    · rfl
    · rfl
  obtain ⟨F, hF, hY⟩ : ∃ F : M7, F = (if decide (mi 4 = 0) = true then p else fp7 p 3) ∧ Y = bfX12_readsMoon_12 mi tp (mi 4) (mi 5) (mi 6) F.1 F.2.1 F.2.2.1 F.2.2.2.1 F.2.2.2.2.1 F.2.2.2.2.2.1 F.2.2.2.2.2.2 := by
    unfold fX12_readsMoon at hY
    refine ⟨_, rfl, ?_⟩
    rw [← hp, ← b_ite]
    by_cases h4 : mi 4 = 0
    · rw [if_pos h4] at hY ⊢
      exact hY
    · rw [if_neg h4] at hY ⊢
      obtain ⟨o1, e1, hY⟩ := cal_out hY
      rw [← faults_fp e1]
      exact hY
  unfold bfX6_readMoon_16 at hX
  obtain ⟨o1, e1, hX⟩ := cal_out hX
  obtain ⟨o2, e2, hX⟩ := cal_out hX
  obtain ⟨o3, e3, hX⟩ := cal_out hX
  obtain ⟨o4, e4, hX⟩ := cal_out hX
  unfold bfX6_readMoon_60 fX0_setMoon cal at hX
  unfold bfX12_readsMoon_12 at hY
  obtain ⟨u1, f1, hY⟩ := cal_out hY
  obtain ⟨u2, f2, hY⟩ := cal_out hY
  obtain ⟨u3, f3, hY⟩ := cal_out hY
  obtain ⟨a1, k1, q1⟩ := q_head hn hT h (decide (mi 4 = 0)) (by rw [hm]; exact b_ite _ _) e1 hF f1 h26 rfl
  obtain ⟨a2, k2, q2⟩ := q_num hn hT k1 e2 f2 0 99999 (by decide) (by decide) (by decide) (by decide) h26 rfl
  obtain ⟨a3, k3, q3⟩ := q_nb hn hT k2 e3 e4 f3 (by decide) 28000 31000 (by decide) (by decide) (by decide) (by decide) h26 rfl
  subst hY
  refine ⟨a3, ?_, fun q => ?_⟩
  · split at hX
    · subst hX
      exact k3
    · subst hX
      exact k3
  · obtain ⟨r2, s3⟩ := q3 q
    obtain ⟨r1, s2⟩ := q2 r2
    rw [if_pos ((aQ_fk k3).mpr q)] at hX
    subst hX
    refine ⟨(q1 r1).1, ?_, rfl⟩
    show ((1 : Int32), o2.1, o4.1) = (1, u2.1, u3.1)
    rw [s2.1, s3.1]
