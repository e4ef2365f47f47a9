/-! what a reading has told so far, of both -/
def DCor (L : Nat) (mo fu le li hm ms mp pc rc dc : Int32) (nm xt xp xk xm xd xn xs xa xb xl xi : Nat → Int32) (m0 m1 m2 m3 m4 m5 m6 m7 m10 m17 : Int32) (lt yt yp yk ym yd yn ys ya yb yl yi : Nat → Int32) : Prop :=
  (mo = m0 ∧ fu = m1 ∧ le = m2 ∧ li = m3 ∧ hm = m4 ∧ ms = m5 ∧ mp = m6) ∧
  (∃ m r d : Nat, m ≤ 6 ∧ r ≤ 24 ∧ d ≤ 8 ∧ pc = nI m ∧ m7 = nI m ∧ rc = nI r ∧ m10 = nI r ∧ dc = nI d ∧ m17 = nI d ∧ NM m nm lt ∧ (∀ j, j < m → xt j = yt j) ∧ (∀ j, j < r → (xp j = yp j ∧ xk j = yk j ∧ xm j = ym j ∧ xd j = yd j ∧ xn j = yn j ∧ xs j = ys j) ∧ ∃ q, q < m ∧ xp j = nI q) ∧ (∀ j, j < d → xa j = ya j ∧ xb j = yb j ∧ xl j = yl j ∧ xi j = yi j)) ∧
  (0 ≤ m3.toInt ∧ m3.toInt ≤ L)
def DRel (L : Nat) (mo fu le li hm ms mp pc rc dc : Int32) (nm xt xp xk xm xd xn xs xa xb xl xi : Nat → Int32) (m0 m1 m2 m3 m4 m5 m6 m7 m10 m17 : Int32) (lt yt yp yk ym yd yn ys ya yb yl yi : Nat → Int32) : Prop :=
  DCor L mo fu le li hm ms mp pc rc dc nm xt xp xk xm xd xn xs xa xb xl xi m0 m1 m2 m3 m4 m5 m6 m7 m10 m17 lt yt yp yk ym yd yn ys ya yb yl yi ∧ (¬ m3 = 0 → 2 ≤ m0.toInt ∧ m0.toInt ≤ 24) ∧ (m3 = 0 → m0 = 0)
theorem upd_eqs {f g : Nat → Int32} {r : Nat} (v : Int32) (h : ∀ j, j < r → f j = g j) : ∀ j, j < r + 1 → upd f r v j = upd g r v j := by
  intro j hj
  by_cases h1 : j = r
  · rw [show upd f r v j = v from if_pos h1, show upd g r v j = v from if_pos h1]
  · rw [show upd f r v j = f j from if_neg h1, show upd g r v j = g j from if_neg h1]
    exact h j (by omega)
theorem q_sign {L n : Nat} {bt tp mi : Nat → Int32} {a : aS} {c : C5} {p : M7} {s0 : Int32} (hn : n ≤ 1600) (hT : TR n bt tp) (h : aQ L n bt a c p) {o : C5} (ho : o = fX6_passSign c.1 c.2.1 c.2.2.1 c.2.2.2.1 c.2.2.2.2 (nI n) bt) {u : M7} (hu : u = fX12_passes mi tp s0) (hs : a.1 = false → s0 = if p.2.2.2.2.1 = 3 then 1 else 0) (h26 : mi 26 = nI n) (hp : own7 mi = p) : ∃ a', aQ (L + 1) n bt a' o u ∧ (a'.1 = false → a.1 = false ∧ L ≤ n) := by
  subst ho hu
  have h1 := rx_passes hn (decide ((ptok (fun j => (tp j).toInt) n a.2.2.2).1 = 4)) (p1 := s0) (fun ha => by
    obtain ⟨s, rfl, g2, g3, g4, g5, g6, g7, l1, l2, l3, l4, l5, l6, l7⟩ := aQ_ok h ha
    have hk := ptok_kind (fun j => (bt j).toInt) n s
    rw [hs ha, l6, tr_tok hT]
    show (if nI (pkind (ptok (fun j => (bt j).toInt) n s).1) = 3 then (1 : Int32) else 0) = if decide ((ptok (fun j => (bt j).toInt) n s).1 = 4) = true then 1 else 0
    by_cases h5 : (ptok (fun j => (bt j).toInt) n s).1 = 4
    · rw [if_pos (by rw [h5]; rfl), if_pos (decide_eq_true h5)]
    · have h6 : ¬ pkind (ptok (fun j => (bt j).toInt) n s).1 = 3 := by
        unfold pkind
        rcases (show (ptok (fun j => (bt j).toInt) n s).1 = 0 ∨ (ptok (fun j => (bt j).toInt) n s).1 = 1 ∨ (ptok (fun j => (bt j).toInt) n s).1 = 2 ∨ (ptok (fun j => (bt j).toInt) n s).1 = 3 by omega) with q3 | q3 | q3 | q3 <;> rw [q3] <;> decide
      have h7 := pkind_le hk
      rw [if_neg (fun (q : nI (pkind (ptok (fun j => (bt j).toInt) n s).1) = (3 : Int32)) => h6 (pz_ninj (b := 3) (by omega) (by omega) q)), if_neg (fun q => h5 (of_decide_eq_true q))]) (aQ_RR h hT h26 hp)
  rw [tr_step hT, tr_tok hT] at h1
  refine ⟨_, aQ_of hT (cx_sign hn h.1) h1 ?_, fun q => ?_⟩
  · intro q
    have q1 := aExp_okb (aStep_ok q)
    have q2 := h.2.2 q1.1
    have e : aStep (fun j => (bt j).toInt) n (aExp (decide ((ptok (fun j => (bt j).toInt) n a.2.2.2).1 = 4)) 1 a) = aOk (aNext (fun j => (bt j).toInt) n a.2.2.2) := by
      have e1 : aExp (decide ((ptok (fun j => (bt j).toInt) n a.2.2.2).1 = 4)) 1 a = a := by
        unfold aExp
        rw [if_neg (by rw [q1.1]; decide), if_pos q1.2]
      rw [e1]
      exact if_neg (by rw [q1.1]; decide)
    rw [e]
    have q3 := of_decide_eq_true q1.2
    show L + 1 ≤ aNext (fun j => (bt j).toInt) n a.2.2.2 ∧ aNext (fun j => (bt j).toInt) n a.2.2.2 ≤ n
    refine ⟨?_, aNext_le _ q2.2⟩
    have q4 : a.2.2.2 + 1 ≤ (ptok (fun j => (bt j).toInt) n a.2.2.2).2 := by
      unfold ptok at q3 ⊢
      by_cases w1 : a.2.2.2 < n
      · rw [if_pos w1] at q3 ⊢
        by_cases w2 : cL (bt a.2.2.2).toInt = true
        · rw [if_pos w2] at q3
          exact absurd q3 (by intro q; cases q)
        · rw [if_neg w2] at q3 ⊢
          by_cases w3 : cD (bt a.2.2.2).toInt = true
          · rw [if_pos w3] at q3
            exact absurd q3 (by intro q; cases q)
          · rw [if_neg w3] at q3 ⊢
            split
            · exact Nat.le_refl _
            · exact Nat.le_refl _
      · rw [if_neg w1] at q3
        exact absurd q3 (by intro q; cases q)
    have q5 := prun_le (fun j => cB (bt j).toInt) (n - (ptok (fun j => (bt j).toInt) n a.2.2.2).2) (ptok (fun j => (bt j).toInt) n a.2.2.2).2
    show L + 1 ≤ prun (fun j => cB (bt j).toInt) (n - (ptok (fun j => (bt j).toInt) n a.2.2.2).2) (ptok (fun j => (bt j).toInt) n a.2.2.2).2
    omega
  · have q1 := aExp_okb (aStep_ok q)
    have q2 := h.2.2 q1.1
    exact ⟨q1.1, by omega⟩
theorem line_end {L n : Nat} {bt tp mi : Nat → Int32} {a : aS} {c : C5} {p : M7} {k1 k2 k3 k4 k5 f0 f1 f2 f3 f4 f5 f6 f7 f8 f9 mo fu le li hm ms mp pc rc dc m0 m1 m2 m3 m4 m5 m6 m7 m10 m17 : Int32} {g0 g1 g2 g3 g4 g5 g6 g7 g8 g9 g10 g11 y0 y1 y2 y3 y4 y5 y6 y7 y8 y9 y10 y11 nm xt xp xk xm xd xn xs xa xb xl xi lt yt yp yk ym yd yn ys ya yb yl yi : Nat → Int32} (hn : n ≤ 1600) (hT : TR n bt tp) (k : aQ L n bt a c p) {X : Int32 × Int32 × Int32 × Int32 × Int32 × Int32 × Int32 × Int32 × Int32 × Int32 × Int32 × Int32 × Int32 × Int32 × Int32 × (Nat → Int32) × (Nat → Int32) × (Nat → Int32) × (Nat → Int32) × (Nat → Int32) × (Nat → Int32) × (Nat → Int32) × (Nat → Int32) × (Nat → Int32) × (Nat → Int32) × (Nat → Int32) × (Nat → Int32)} (hX : X = bfX6_readLine_125 k1 k2 k3 k4 k5 (nI n) bt f0 f1 f2 f3 f4 f5 f6 f7 f8 f9 g0 g1 g2 g3 g4 g5 g6 g7 g8 g9 g10 g11 c.1 c.2.1 c.2.2.1 c.2.2.2.1 c.2.2.2.2 mo fu le li hm ms mp pc rc dc nm xt xp xk xm xd xn xs xa xb xl xi) {Y : Int32 × Int32 × Int32 × Int32 × Int32 × Int32 × Int32 × Int32 × Int32 × Int32 × Int32 × Int32 × Int32 × Int32 × Int32 × Int32 × Int32 × (Nat → Int32) × (Nat → Int32) × (Nat → Int32) × (Nat → Int32) × (Nat → Int32) × (Nat → Int32) × (Nat → Int32) × (Nat → Int32) × (Nat → Int32) × (Nat → Int32) × (Nat → Int32) × (Nat → Int32)} (hY : Y = bfX12_readsLine_136 mi tp y0 y1 y2 y3 y4 y5 y6 y7 y8 y9 y10 y11 m0 m1 m2 m3 m4 m5 m6 m7 m10 m17 p.1 p.2.1 p.2.2.1 p.2.2.2.1 p.2.2.2.2.1 p.2.2.2.2.2.1 p.2.2.2.2.2.2 lt yt yp yk ym yd yn ys ya yb yl yi) (h26 : mi 26 = nI n) (hD : a.1 = false → DCor L mo fu le li hm ms mp pc rc dc nm xt xp xk xm xd xn xs xa xb xl xi m0 m1 m2 m3 m4 m5 m6 m7 m10 m17 lt yt yp yk ym yd yn ys ya yb yl yi ∧ 2 ≤ m0.toInt ∧ m0.toInt ≤ 24) : ∃ a', aQ (L + 1) n bt a' (X.1, X.2.1, X.2.2.1, X.2.2.2.1, X.2.2.2.2.1) (Y.2.2.2.2.2.2.2.2.2.2.1, Y.2.2.2.2.2.2.2.2.2.2.2.1, Y.2.2.2.2.2.2.2.2.2.2.2.2.1, Y.2.2.2.2.2.2.2.2.2.2.2.2.2.1, Y.2.2.2.2.2.2.2.2.2.2.2.2.2.2.1, Y.2.2.2.2.2.2.2.2.2.2.2.2.2.2.2.1, Y.2.2.2.2.2.2.2.2.2.2.2.2.2.2.2.2.1) ∧ (a'.1 = false → DRel (L + 1) X.2.2.2.2.2.1 X.2.2.2.2.2.2.1 X.2.2.2.2.2.2.2.1 X.2.2.2.2.2.2.2.2.1 X.2.2.2.2.2.2.2.2.2.1 X.2.2.2.2.2.2.2.2.2.2.1 X.2.2.2.2.2.2.2.2.2.2.2.1 X.2.2.2.2.2.2.2.2.2.2.2.2.1 X.2.2.2.2.2.2.2.2.2.2.2.2.2.1 X.2.2.2.2.2.2.2.2.2.2.2.2.2.2.1 X.2.2.2.2.2.2.2.2.2.2.2.2.2.2.2.1 X.2.2.2.2.2.2.2.2.2.2.2.2.2.2.2.2.1 X.2.2.2.2.2.2.2.2.2.2.2.2.2.2.2.2.2.1 X.2.2.2.2.2.2.2.2.2.2.2.2.2.2.2.2.2.2.1 X.2.2.2.2.2.2.2.2.2.2.2.2.2.2.2.2.2.2.2.1 X.2.2.2.2.2.2.2.2.2.2.2.2.2.2.2.2.2.2.2.2.1 X.2.2.2.2.2.2.2.2.2.2.2.2.2.2.2.2.2.2.2.2.2.1 X.2.2.2.2.2.2.2.2.2.2.2.2.2.2.2.2.2.2.2.2.2.2.1 X.2.2.2.2.2.2.2.2.2.2.2.2.2.2.2.2.2.2.2.2.2.2.2.1 X.2.2.2.2.2.2.2.2.2.2.2.2.2.2.2.2.2.2.2.2.2.2.2.2.1 X.2.2.2.2.2.2.2.2.2.2.2.2.2.2.2.2.2.2.2.2.2.2.2.2.2.1 X.2.2.2.2.2.2.2.2.2.2.2.2.2.2.2.2.2.2.2.2.2.2.2.2.2.2 Y.1 Y.2.1 Y.2.2.1 Y.2.2.2.1 Y.2.2.2.2.1 Y.2.2.2.2.2.1 Y.2.2.2.2.2.2.1 Y.2.2.2.2.2.2.2.1 Y.2.2.2.2.2.2.2.2.1 Y.2.2.2.2.2.2.2.2.2.1 Y.2.2.2.2.2.2.2.2.2.2.2.2.2.2.2.2.2.1 Y.2.2.2.2.2.2.2.2.2.2.2.2.2.2.2.2.2.2.1 Y.2.2.2.2.2.2.2.2.2.2.2.2.2.2.2.2.2.2.2.1 Y.2.2.2.2.2.2.2.2.2.2.2.2.2.2.2.2.2.2.2.2.1 Y.2.2.2.2.2.2.2.2.2.2.2.2.2.2.2.2.2.2.2.2.2.1 Y.2.2.2.2.2.2.2.2.2.2.2.2.2.2.2.2.2.2.2.2.2.2.1 Y.2.2.2.2.2.2.2.2.2.2.2.2.2.2.2.2.2.2.2.2.2.2.2.1 Y.2.2.2.2.2.2.2.2.2.2.2.2.2.2.2.2.2.2.2.2.2.2.2.2.1 Y.2.2.2.2.2.2.2.2.2.2.2.2.2.2.2.2.2.2.2.2.2.2.2.2.2.1 Y.2.2.2.2.2.2.2.2.2.2.2.2.2.2.2.2.2.2.2.2.2.2.2.2.2.2.1 Y.2.2.2.2.2.2.2.2.2.2.2.2.2.2.2.2.2.2.2.2.2.2.2.2.2.2.2.1 Y.2.2.2.2.2.2.2.2.2.2.2.2.2.2.2.2.2.2.2.2.2.2.2.2.2.2.2.2) := by
  unfold bfX6_readLine_125 bfX6_readLine_149 at hX
  obtain ⟨o1, e1, hX⟩ := cal_out hX
  obtain ⟨s0, hs0, hY⟩ : ∃ s0 : Int32, (a.1 = false → s0 = if p.2.2.2.2.1 = 3 then 1 else 0) ∧ Y = bfX12_readsLine_157 mi tp y0 y1 y2 y3 y4 y5 y6 y7 y8 y9 y10 y11 s0 m0 m1 m2 m3 m4 m5 m6 m7 m10 m17 p.1 p.2.1 p.2.2.1 p.2.2.2.1 p.2.2.2.2.1 p.2.2.2.2.2.1 p.2.2.2.2.2.2 lt yt yp yk ym yd yn ys ya yb yl yi := by
    unfold bfX12_readsLine_136 bfX12_readsLine_152 at hY
    by_cases ha : a.1 = false
    · rw [if_pos ((aQ_33 k).mpr ha)] at hY
      by_cases h3 : p.2.2.2.2.1 = 3
      · rw [if_pos h3] at hY
        exact ⟨1, fun _ => (if_pos h3).symm, hY⟩
      · rw [if_neg h3] at hY
        exact ⟨0, fun _ => (if_neg h3).symm, hY⟩
    · rw [if_neg (fun q => ha ((aQ_33 k).mp q))] at hY
      exact ⟨1, fun q => absurd q ha, hY⟩
  unfold bfX12_readsLine_157 at hY
  obtain ⟨u1, w1, hY⟩ := cal_out hY
  obtain ⟨a1, kk, q1⟩ := q_sign hn hT k e1 w1 hs0 h26 rfl
  subst hY
  refine ⟨a1, ?_, fun q => ?_⟩
  · split at hX
    · subst hX
      exact kk
    · subst hX
      exact kk
  · rw [if_pos ((aQ_fk kk).mpr q)] at hX
    subst hX
    obtain ⟨⟨⟨r1, r2, r3, r4, r5, r6, r7⟩, hE, r8, r9⟩, r12, r13⟩ := hD (q1 q).1
    have r14 := (q1 q).2
    have z1 := pz_add1 (a := m3) (by omega)
    refine ⟨⟨⟨r1, r2, r3, by show li + 1 = m3 + 1; rw [r4], r5, r6, r7⟩, hE, ?_, ?_⟩, ?_, ?_⟩
    · show 0 ≤ (m3 + 1).toInt
      omega
    · show (m3 + 1).toInt ≤ _
      omega
    · intro _
      exact ⟨r12, r13⟩
    · intro q9
      have q9 : m3 + 1 = 0 := q9
      have z0 : (0 : Int32).toInt = 0 := by decide
      rw [q9, z0] at z1
      omega
theorem chain17 (mi : Nat → Int32) : (upd (upd (upd (upd (upd (upd (upd (upd (upd (upd (upd (upd (upd (upd (upd (upd (upd mi 0 (mi 0)) 1 (mi 1)) 2 (mi 2)) 3 (mi 3)) 4 (mi 4)) 5 (mi 5)) 6 (mi 6)) 7 (mi 7)) 10 (mi 10)) 17 (mi 17)) 27 (mi 27)) 28 (mi 28)) 29 (mi 29)) 30 (mi 30)) 31 (mi 31)) 32 (mi 32)) 33 (mi 33)) = mi := by simp only [upd_self]
theorem b108 {mi tp lt yt yp yk ym yd yn ys ya yb yl yi : Nat → Int32} (kd : Int32) : bfX12_readsLine_108 mi tp lt yt yp yk ym yd yn ys ya yb yl yi kd (mi 0) (mi 1) (mi 2) (mi 3) (mi 4) (mi 5) (mi 6) (mi 7) (mi 10) (mi 17) (mi 27) (mi 28) (mi 29) (mi 30) (mi 31) (mi 32) (mi 33) lt yt yp yk ym yd yn ys ya yb yl yi = cal (fun o14 => bfX12_readsLine_136 mi tp lt yt yp yk ym yd yn ys ya yb yl yi (mi 0) (mi 1) (mi 2) (mi 3) (mi 4) (mi 5) (mi 6) (mi 7) o14.1 (mi 17) o14.2.1 o14.2.2.1 o14.2.2.2.1 o14.2.2.2.2.1 o14.2.2.2.2.2.1 o14.2.2.2.2.2.2.1 o14.2.2.2.2.2.2.2.1 lt yt o14.2.2.2.2.2.2.2.2.1 o14.2.2.2.2.2.2.2.2.2.1 o14.2.2.2.2.2.2.2.2.2.2.1 o14.2.2.2.2.2.2.2.2.2.2.2.1 o14.2.2.2.2.2.2.2.2.2.2.2.2.1 o14.2.2.2.2.2.2.2.2.2.2.2.2.2 ya yb yl yi) (fX12_readsReport mi tp lt yp yk ym yd yn ys kd) := by
  unfold bfX12_readsLine_108
  rw [chain17]
set_option maxRecDepth 100000 in
theorem ln_line {L n : Nat} {bt tp mi nm xt xp xk xm xd xn xs xa xb xl xi lt yt yp yk ym yd yn ys ya yb yl yi : Nat → Int32} {c : C5} {p : M7} {mo fu le li hm ms mp pc rc dc : Int32} (hn : n ≤ 1600) (hT : TR n bt tp) (h : aQ L n bt (aOk L) c p) (hD : DRel L mo fu le li hm ms mp pc rc dc nm xt xp xk xm xd xn xs xa xb xl xi (mi 0) (mi 1) (mi 2) (mi 3) (mi 4) (mi 5) (mi 6) (mi 7) (mi 10) (mi 17) lt yt yp yk ym yd yn ys ya yb yl yi) {X : Int32 × Int32 × Int32 × Int32 × Int32 × Int32 × Int32 × Int32 × Int32 × Int32 × Int32 × Int32 × Int32 × Int32 × Int32 × (Nat → Int32) × (Nat → Int32) × (Nat → Int32) × (Nat → Int32) × (Nat → Int32) × (Nat → Int32) × (Nat → Int32) × (Nat → Int32) × (Nat → Int32) × (Nat → Int32) × (Nat → Int32) × (Nat → Int32)} (hX : X = fX6_readLine c.1 c.2.1 c.2.2.1 c.2.2.2.1 c.2.2.2.2 (nI n) bt mo fu le li hm ms mp pc rc dc nm xt xp xk xm xd xn xs xa xb xl xi) {Y : Int32 × Int32 × Int32 × Int32 × Int32 × Int32 × Int32 × Int32 × Int32 × Int32 × Int32 × Int32 × Int32 × Int32 × Int32 × Int32 × Int32 × (Nat → Int32) × (Nat → Int32) × (Nat → Int32) × (Nat → Int32) × (Nat → Int32) × (Nat → Int32) × (Nat → Int32) × (Nat → Int32) × (Nat → Int32) × (Nat → Int32) × (Nat → Int32) × (Nat → Int32)} (hY : Y = fX12_readsLine mi tp lt yt yp yk ym yd yn ys ya yb yl yi) (h26 : mi 26 = nI n) (hp : own7 mi = p) : ∃ a', aQ (L + 1) n bt a' (X.1, X.2.1, X.2.2.1, X.2.2.2.1, X.2.2.2.2.1) (Y.2.2.2.2.2.2.2.2.2.2.1, Y.2.2.2.2.2.2.2.2.2.2.2.1, Y.2.2.2.2.2.2.2.2.2.2.2.2.1, Y.2.2.2.2.2.2.2.2.2.2.2.2.2.1, Y.2.2.2.2.2.2.2.2.2.2.2.2.2.2.1, Y.2.2.2.2.2.2.2.2.2.2.2.2.2.2.2.1, Y.2.2.2.2.2.2.2.2.2.2.2.2.2.2.2.2.1) ∧ (a'.1 = false → DRel (L + 1) X.2.2.2.2.2.1 X.2.2.2.2.2.2.1 X.2.2.2.2.2.2.2.1 X.2.2.2.2.2.2.2.2.1 X.2.2.2.2.2.2.2.2.2.1 X.2.2.2.2.2.2.2.2.2.2.1 X.2.2.2.2.2.2.2.2.2.2.2.1 X.2.2.2.2.2.2.2.2.2.2.2.2.1 X.2.2.2.2.2.2.2.2.2.2.2.2.2.1 X.2.2.2.2.2.2.2.2.2.2.2.2.2.2.1 X.2.2.2.2.2.2.2.2.2.2.2.2.2.2.2.1 X.2.2.2.2.2.2.2.2.2.2.2.2.2.2.2.2.1 X.2.2.2.2.2.2.2.2.2.2.2.2.2.2.2.2.2.1 X.2.2.2.2.2.2.2.2.2.2.2.2.2.2.2.2.2.2.1 X.2.2.2.2.2.2.2.2.2.2.2.2.2.2.2.2.2.2.2.1 X.2.2.2.2.2.2.2.2.2.2.2.2.2.2.2.2.2.2.2.2.1 X.2.2.2.2.2.2.2.2.2.2.2.2.2.2.2.2.2.2.2.2.2.1 X.2.2.2.2.2.2.2.2.2.2.2.2.2.2.2.2.2.2.2.2.2.2.1 X.2.2.2.2.2.2.2.2.2.2.2.2.2.2.2.2.2.2.2.2.2.2.2.1 X.2.2.2.2.2.2.2.2.2.2.2.2.2.2.2.2.2.2.2.2.2.2.2.2.1 X.2.2.2.2.2.2.2.2.2.2.2.2.2.2.2.2.2.2.2.2.2.2.2.2.2.1 X.2.2.2.2.2.2.2.2.2.2.2.2.2.2.2.2.2.2.2.2.2.2.2.2.2.2 Y.1 Y.2.1 Y.2.2.1 Y.2.2.2.1 Y.2.2.2.2.1 Y.2.2.2.2.2.1 Y.2.2.2.2.2.2.1 Y.2.2.2.2.2.2.2.1 Y.2.2.2.2.2.2.2.2.1 Y.2.2.2.2.2.2.2.2.2.1 Y.2.2.2.2.2.2.2.2.2.2.2.2.2.2.2.2.2.1 Y.2.2.2.2.2.2.2.2.2.2.2.2.2.2.2.2.2.2.1 Y.2.2.2.2.2.2.2.2.2.2.2.2.2.2.2.2.2.2.2.1 Y.2.2.2.2.2.2.2.2.2.2.2.2.2.2.2.2.2.2.2.2.1 Y.2.2.2.2.2.2.2.2.2.2.2.2.2.2.2.2.2.2.2.2.2.1 Y.2.2.2.2.2.2.2.2.2.2.2.2.2.2.2.2.2.2.2.2.2.2.1 Y.2.2.2.2.2.2.2.2.2.2.2.2.2.2.2.2.2.2.2.2.2.2.2.1 Y.2.2.2.2.2.2.2.2.2.2.2.2.2.2.2.2.2.2.2.2.2.2.2.2.1 Y.2.2.2.2.2.2.2.2.2.2.2.2.2.2.2.2.2.2.2.2.2.2.2.2.2.1 Y.2.2.2.2.2.2.2.2.2.2.2.2.2.2.2.2.2.2.2.2.2.2.2.2.2.2.1 Y.2.2.2.2.2.2.2.2.2.2.2.2.2.2.2.2.2.2.2.2.2.2.2.2.2.2.2.1 Y.2.2.2.2.2.2.2.2.2.2.2.2.2.2.2.2.2.2.2.2.2.2.2.2.2.2.2.2) := by
  obtain ⟨⟨⟨rfl, rfl, rfl, rfl, rfl, rfl, rfl⟩, ⟨m, r, d, hm, hr, hd, rfl, h7, rfl, h10, rfl, h17, hN, hE1, hE2, hE3⟩, r8, r9⟩, r10, r11⟩ := hD
  unfold fX6_readLine at hX
  unfold fX12_readsLine at hY
  have ha : (aOk L).1 = false := rfl
  by_cases h0 : mi 3 = 0
  · rw [if_pos h0] at hX hY
    obtain ⟨o1, e1, hX⟩ := cal_out hX
    obtain ⟨u1, f1, hY⟩ := cal_out hY
    obtain ⟨a1, k1, q1⟩ := ln_head hn hT h e1 f1 h26 hp
    refine line_end hn hT k1 hX hY h26 (fun q => ?_)
    obtain ⟨-, s1, s2, s3, -⟩ := q1 q
    exact ⟨⟨⟨congrArg (fun x => x.1) s1, congrArg (fun x => x.2.1) s1, congrArg (fun x => x.2.2) s1, rfl, rfl, rfl, rfl⟩, ⟨m, r, d, hm, hr, hd, rfl, h7, rfl, h10, rfl, h17, hN, hE1, hE2, hE3⟩, r8, r9⟩, s2, s3⟩
  rw [if_neg h0] at hX hY
  have hb := r10 h0
  have hw := fun (wi : Nat) (g : (stL wi).length ≤ 7) => q_is (wi := wi) hn hT h ha g hp
  have repc : ∀ kd : Int32, X = cal (fun o9 => bfX6_readLine_125 c.1 c.2.1 c.2.2.1 c.2.2.2.1 c.2.2.2.2 (nI n) bt (mi 0) (mi 1) (mi 2) (mi 3) (mi 4) (mi 5) (mi 6) (nI m) (nI r) (nI d) nm xt xp xk xm xd xn xs xa xb xl xi o9.1 o9.2.1 o9.2.2.1 o9.2.2.2.1 o9.2.2.2.2.1 (mi 0) (mi 1) (mi 2) (mi 3) (mi 4) (mi 5) (mi 6) (nI m) o9.2.2.2.2.2.1 (nI d) nm xt o9.2.2.2.2.2.2.1 o9.2.2.2.2.2.2.2.1 o9.2.2.2.2.2.2.2.2.1 o9.2.2.2.2.2.2.2.2.2.1 o9.2.2.2.2.2.2.2.2.2.2.1 o9.2.2.2.2.2.2.2.2.2.2.2 xa xb xl xi) (fX6_readReport c.1 c.2.1 c.2.2.1 c.2.2.2.1 c.2.2.2.2 (nI n) bt (mi 0) (nI m) (nI r) xp xk xm xd xn xs nm kd) → Y = bfX12_readsLine_108 mi tp lt yt yp yk ym yd yn ys ya yb yl yi kd (mi 0) (mi 1) (mi 2) (mi 3) (mi 4) (mi 5) (mi 6) (mi 7) (mi 10) (mi 17) (mi 27) (mi 28) (mi 29) (mi 30) (mi 31) (mi 32) (mi 33) lt yt yp yk ym yd yn ys ya yb yl yi → ∃ a', aQ (L + 1) n bt a' (X.1, X.2.1, X.2.2.1, X.2.2.2.1, X.2.2.2.2.1) (Y.2.2.2.2.2.2.2.2.2.2.1, Y.2.2.2.2.2.2.2.2.2.2.2.1, Y.2.2.2.2.2.2.2.2.2.2.2.2.1, Y.2.2.2.2.2.2.2.2.2.2.2.2.2.1, Y.2.2.2.2.2.2.2.2.2.2.2.2.2.2.1, Y.2.2.2.2.2.2.2.2.2.2.2.2.2.2.2.1, Y.2.2.2.2.2.2.2.2.2.2.2.2.2.2.2.2.1) ∧ (a'.1 = false → DRel (L + 1) X.2.2.2.2.2.1 X.2.2.2.2.2.2.1 X.2.2.2.2.2.2.2.1 X.2.2.2.2.2.2.2.2.1 X.2.2.2.2.2.2.2.2.2.1 X.2.2.2.2.2.2.2.2.2.2.1 X.2.2.2.2.2.2.2.2.2.2.2.1 X.2.2.2.2.2.2.2.2.2.2.2.2.1 X.2.2.2.2.2.2.2.2.2.2.2.2.2.1 X.2.2.2.2.2.2.2.2.2.2.2.2.2.2.1 X.2.2.2.2.2.2.2.2.2.2.2.2.2.2.2.1 X.2.2.2.2.2.2.2.2.2.2.2.2.2.2.2.2.1 X.2.2.2.2.2.2.2.2.2.2.2.2.2.2.2.2.2.1 X.2.2.2.2.2.2.2.2.2.2.2.2.2.2.2.2.2.2.1 X.2.2.2.2.2.2.2.2.2.2.2.2.2.2.2.2.2.2.2.1 X.2.2.2.2.2.2.2.2.2.2.2.2.2.2.2.2.2.2.2.2.1 X.2.2.2.2.2.2.2.2.2.2.2.2.2.2.2.2.2.2.2.2.2.1 X.2.2.2.2.2.2.2.2.2.2.2.2.2.2.2.2.2.2.2.2.2.2.1 X.2.2.2.2.2.2.2.2.2.2.2.2.2.2.2.2.2.2.2.2.2.2.2.1 X.2.2.2.2.2.2.2.2.2.2.2.2.2.2.2.2.2.2.2.2.2.2.2.2.1 X.2.2.2.2.2.2.2.2.2.2.2.2.2.2.2.2.2.2.2.2.2.2.2.2.2.1 X.2.2.2.2.2.2.2.2.2.2.2.2.2.2.2.2.2.2.2.2.2.2.2.2.2.2 Y.1 Y.2.1 Y.2.2.1 Y.2.2.2.1 Y.2.2.2.2.1 Y.2.2.2.2.2.1 Y.2.2.2.2.2.2.1 Y.2.2.2.2.2.2.2.1 Y.2.2.2.2.2.2.2.2.1 Y.2.2.2.2.2.2.2.2.2.1 Y.2.2.2.2.2.2.2.2.2.2.2.2.2.2.2.2.2.1 Y.2.2.2.2.2.2.2.2.2.2.2.2.2.2.2.2.2.2.1 Y.2.2.2.2.2.2.2.2.2.2.2.2.2.2.2.2.2.2.2.1 Y.2.2.2.2.2.2.2.2.2.2.2.2.2.2.2.2.2.2.2.2.1 Y.2.2.2.2.2.2.2.2.2.2.2.2.2.2.2.2.2.2.2.2.2.1 Y.2.2.2.2.2.2.2.2.2.2.2.2.2.2.2.2.2.2.2.2.2.2.1 Y.2.2.2.2.2.2.2.2.2.2.2.2.2.2.2.2.2.2.2.2.2.2.2.1 Y.2.2.2.2.2.2.2.2.2.2.2.2.2.2.2.2.2.2.2.2.2.2.2.2.1 Y.2.2.2.2.2.2.2.2.2.2.2.2.2.2.2.2.2.2.2.2.2.2.2.2.2.1 Y.2.2.2.2.2.2.2.2.2.2.2.2.2.2.2.2.2.2.2.2.2.2.2.2.2.2.1 Y.2.2.2.2.2.2.2.2.2.2.2.2.2.2.2.2.2.2.2.2.2.2.2.2.2.2.2.1 Y.2.2.2.2.2.2.2.2.2.2.2.2.2.2.2.2.2.2.2.2.2.2.2.2.2.2.2.2) := by
    intro kd hX hY
    rw [b108] at hY
    obtain ⟨o9, e9, hX⟩ := cal_out hX
    obtain ⟨u9, f9, hY⟩ := cal_out hY
    obtain ⟨a1, k1, q1⟩ := ln_report hn hT h hm hN hr h7 h10 hb.1 hb.2 e9 f9 h26 hp
    refine line_end hn hT k1 hX hY h26 (fun q => ?_)
    obtain ⟨-, hr24, v1, v3, v4, v5, ⟨jq, hjq, ev1⟩, s1, s2, s3⟩ := q1 q
    have t1 : o9.2.2.2.2.2.1 = nI (r + 1) := congrArg (fun x => x.1) s1
    have t2 : o9.2.2.2.2.2.2.1 = upd xp r v1 := congrArg (fun x => x.2.1) s1
    have t3 : o9.2.2.2.2.2.2.2.1 = upd xk r kd := congrArg (fun x => x.2.2.1) s1
    have t4 : o9.2.2.2.2.2.2.2.2.1 = upd xm r v3 := congrArg (fun x => x.2.2.2.1) s1
    have t5 : o9.2.2.2.2.2.2.2.2.2.1 = upd xd r v4 := congrArg (fun x => x.2.2.2.2.1) s1
    have t6 : o9.2.2.2.2.2.2.2.2.2.2.1 = upd xn r v5 := congrArg (fun x => x.2.2.2.2.2.1) s1
    have t7 : o9.2.2.2.2.2.2.2.2.2.2.2 = upd xs r 0 := congrArg (fun x => x.2.2.2.2.2.2) s1
    have w2 : u9.2.2.2.2.2.2.2.2.1 = upd yp r v1 := congrArg (fun x => x.1) s3
    have w3 : u9.2.2.2.2.2.2.2.2.2.1 = upd yk r kd := congrArg (fun x => x.2.1) s3
    have w4 : u9.2.2.2.2.2.2.2.2.2.2.1 = upd ym r v3 := congrArg (fun x => x.2.2.1) s3
    have w5 : u9.2.2.2.2.2.2.2.2.2.2.2.1 = upd yd r v4 := congrArg (fun x => x.2.2.2.1) s3
    have w6 : u9.2.2.2.2.2.2.2.2.2.2.2.2.1 = upd yn r v5 := congrArg (fun x => x.2.2.2.2.1) s3
    have w7 : u9.2.2.2.2.2.2.2.2.2.2.2.2.2 = upd ys r 0 := congrArg (fun x => x.2.2.2.2.2) s3
    rw [t1, t2, t3, t4, t5, t6, t7, s2, w2, w3, w4, w5, w6, w7]
    refine ⟨⟨⟨rfl, rfl, rfl, rfl, rfl, rfl, rfl⟩, ⟨m, r + 1, d, hm, by omega, hd, rfl, h7, rfl, rfl, rfl, h17, hN, hE1, fun j hj => ⟨⟨upd_eqs v1 (fun i hi => (hE2 i hi).1.1) j hj, upd_eqs kd (fun i hi => (hE2 i hi).1.2.1) j hj, upd_eqs v3 (fun i hi => (hE2 i hi).1.2.2.1) j hj, upd_eqs v4 (fun i hi => (hE2 i hi).1.2.2.2.1) j hj, upd_eqs v5 (fun i hi => (hE2 i hi).1.2.2.2.2.1) j hj, upd_eqs 0 (fun i hi => (hE2 i hi).1.2.2.2.2.2) j hj⟩, ?_⟩, hE3⟩, r8, r9⟩, hb⟩
    by_cases h1 : j = r
    · exact ⟨jq, hjq, (show upd xp r v1 j = v1 from if_pos h1).trans ev1⟩
    · obtain ⟨q1, q2, q3⟩ := (hE2 j (by omega)).2
      exact ⟨q1, q2, (show upd xp r v1 j = xp j from if_neg h1).trans q3⟩
  obtain ⟨o1, e1, hX⟩ := cal_out hX
  obtain ⟨u12, f12, hY⟩ := cal_out hY
  have e12 : o1 = u12 := e1.trans ((hw 12 (by decide)).1.trans f12.symm)
  by_cases z12 : ¬ u12 = 0
  · rw [if_neg (fun q => z12 (e12.symm.trans q))] at hX
    rw [if_neg z12] at hY
    obtain ⟨o2, e2, hX⟩ := cal_out hX
    obtain ⟨u2, f2, hY⟩ := cal_out hY
    obtain ⟨a1, k1, q1⟩ := ln_moon hn hT h rfl e2 f2 h26 hp
    refine line_end hn hT k1 hX hY h26 (fun q => ?_)
    obtain ⟨-, s1, -⟩ := q1 q
    exact ⟨⟨⟨rfl, rfl, rfl, rfl, congrArg (fun x => x.1) s1, congrArg (fun x => x.2.1) s1, congrArg (fun x => x.2.2) s1⟩, ⟨m, r, d, hm, hr, hd, rfl, h7, rfl, h10, rfl, h17, hN, hE1, hE2, hE3⟩, r8, r9⟩, hb⟩
  have z12 : u12 = 0 := Classical.not_not.mp z12
  rw [if_pos (e12.trans z12)] at hX
  rw [if_pos z12] at hY
  obtain ⟨o1, e1, hX⟩ := cal_out hX
  obtain ⟨u14, f14, hY⟩ := cal_out hY
  have e12 : o1 = u14 := e1.trans ((hw 14 (by decide)).1.trans f14.symm)
  by_cases z14 : ¬ u14 = 0
  · rw [if_neg (fun q => z14 (e12.symm.trans q))] at hX
    rw [if_neg z14] at hY
    obtain ⟨o2, e2, hX⟩ := cal_out hX
    obtain ⟨u2, f2, hY⟩ := cal_out hY
    obtain ⟨a1, k1, q1⟩ := ln_place hn hT h hm hN h7 e2 f2 h26 hp
    refine line_end hn hT k1 hX hY h26 (fun q => ?_)
    obtain ⟨-, hm6, w, cd, lt2, s1, s2, s3, s4⟩ := q1 q
    have t1 : o2.2.2.2.2.2.1 = nI (m + 1) := congrArg (fun x => x.1) s1
    have t2 : o2.2.2.2.2.2.2.1 = upd nm m cd := congrArg (fun x => x.2.1) s1
    have t3 : o2.2.2.2.2.2.2.2 = upd xt m w := congrArg (fun x => x.2.2) s1
    have w2 : u2.2.2.2.2.2.2.2.2.1 = lt2 := congrArg (fun x => x.1) s3
    have w3 : u2.2.2.2.2.2.2.2.2.2 = upd yt m w := congrArg (fun x => x.2) s3
    rw [t1, t2, t3, s2, w2, w3]
    exact ⟨⟨⟨rfl, rfl, rfl, rfl, rfl, rfl, rfl⟩, ⟨m + 1, r, d, by omega, hr, hd, rfl, rfl, rfl, h10, rfl, h17, s4, upd_eqs w hE1, fun j hj => ⟨(hE2 j hj).1, (hE2 j hj).2.elim (fun q1 q2 => ⟨q1, by omega, q2.2⟩)⟩, hE3⟩, r8, r9⟩, hb⟩
  have z14 : u14 = 0 := Classical.not_not.mp z14
  rw [if_pos (e12.trans z14)] at hX
  rw [if_pos z14] at hY
  obtain ⟨o1, e1, hX⟩ := cal_out hX
  obtain ⟨u15, f15, hY⟩ := cal_out hY
  have e12 : o1 = u15 := e1.trans ((hw 15 (by decide)).1.trans f15.symm)
  by_cases z15 : ¬ u15 = 0
  · rw [if_neg (fun q => z15 (e12.symm.trans q))] at hX
    rw [if_neg z15] at hY
    unfold bfX12_readsLine_78 at hY
    obtain ⟨u2, f2, hY⟩ := cal_out hY
    rw [chain17] at f2
    rw [if_neg (fun q => z15 (f15.trans (f2.symm.trans q)))] at hY
    exact repc 0 hX hY
  have z15 : u15 = 0 := Classical.not_not.mp z15
  rw [if_pos (e12.trans z15)] at hX
  rw [if_pos z15] at hY
  obtain ⟨o1, e1, hX⟩ := cal_out hX
  obtain ⟨u1, f1, hY⟩ := cal_out hY
  have e12 : o1 = u1 := e1.trans ((hw 1 (by decide)).1.trans f1.symm)
  by_cases z1 : ¬ u1 = 0
  · rw [if_neg (fun q => z1 (e12.symm.trans q))] at hX
    rw [if_neg z1] at hY
    unfold bfX12_readsLine_78 at hY
    obtain ⟨u2, f2, hY⟩ := cal_out hY
    rw [chain17] at f2
    rw [if_pos (f2.trans (f15.symm.trans z15))] at hY
    obtain ⟨u3, f3, hY⟩ := cal_out hY
    rw [chain17] at f3
    rw [if_neg (fun q => z1 (f1.trans (f3.symm.trans q)))] at hY
    exact repc 1 hX hY
  have z1 : u1 = 0 := Classical.not_not.mp z1
  rw [if_pos (e12.trans z1)] at hX
  rw [if_pos z1] at hY
  obtain ⟨o1, e1, hX⟩ := cal_out hX
  obtain ⟨u2, f2, hY⟩ := cal_out hY
  have e12 : o1 = u2 := e1.trans ((hw 2 (by decide)).1.trans f2.symm)
  by_cases z2 : ¬ u2 = 0
  · rw [if_neg (fun q => z2 (e12.symm.trans q))] at hX
    rw [if_neg z2] at hY
    unfold bfX12_readsLine_78 at hY
    obtain ⟨u7, f7, hY⟩ := cal_out hY
    rw [chain17] at f7
    rw [if_pos (f7.trans (f15.symm.trans z15))] at hY
    obtain ⟨u3, f3, hY⟩ := cal_out hY
    rw [chain17] at f3
    rw [if_pos (f3.trans (f1.symm.trans z1))] at hY
    exact repc 2 hX hY
  have z2 : u2 = 0 := Classical.not_not.mp z2
  rw [if_pos (e12.trans z2)] at hX
  rw [if_pos z2] at hY
  obtain ⟨o1, e1, hX⟩ := cal_out hX
  obtain ⟨u5, f5, hY⟩ := cal_out hY
  have e12 : o1 = u5 := e1.trans ((hw 5 (by decide)).1.trans f5.symm)
  by_cases z5 : ¬ u5 = 0
  · rw [if_neg (fun q => z5 (e12.symm.trans q))] at hX
    rw [if_neg z5] at hY
    obtain ⟨o2, e2, hX⟩ := cal_out hX
    obtain ⟨u7, f7, hY⟩ := cal_out hY
    obtain ⟨a1, k1, q1⟩ := ln_deed hn hT h hd h17 hb.1 hb.2 e2 f7 h26 hp
    refine line_end hn hT k1 hX hY h26 (fun q => ?_)
    obtain ⟨-, hd8, v1, v2, v4, v5, s1, s2, s3⟩ := q1 q
    have t1 : o2.2.2.2.2.2.1 = nI (d + 1) := congrArg (fun x => x.1) s1
    have t2 : o2.2.2.2.2.2.2.1 = upd xa d v1 := congrArg (fun x => x.2.1) s1
    have t3 : o2.2.2.2.2.2.2.2.1 = upd xb d v2 := congrArg (fun x => x.2.2.1) s1
    have t4 : o2.2.2.2.2.2.2.2.2.1 = upd xl d v4 := congrArg (fun x => x.2.2.2.1) s1
    have t5 : o2.2.2.2.2.2.2.2.2.2 = upd xi d v5 := congrArg (fun x => x.2.2.2.2) s1
    have w2 : u7.2.2.2.2.2.2.2.2.1 = upd ya d v1 := congrArg (fun x => x.1) s3
    have w3 : u7.2.2.2.2.2.2.2.2.2.1 = upd yb d v2 := congrArg (fun x => x.2.1) s3
    have w4 : u7.2.2.2.2.2.2.2.2.2.2.1 = upd yl d v4 := congrArg (fun x => x.2.2.1) s3
    have w5 : u7.2.2.2.2.2.2.2.2.2.2.2 = upd yi d v5 := congrArg (fun x => x.2.2.2) s3
    rw [t1, t2, t3, t4, t5, s2, w2, w3, w4, w5]
    exact ⟨⟨⟨rfl, rfl, rfl, rfl, rfl, rfl, rfl⟩, ⟨m, r, d + 1, hm, hr, by omega, rfl, h7, rfl, h10, rfl, rfl, hN, hE1, hE2, fun j hj => ⟨upd_eqs v1 (fun i hi => (hE3 i hi).1) j hj, upd_eqs v2 (fun i hi => (hE3 i hi).2.1) j hj, upd_eqs v4 (fun i hi => (hE3 i hi).2.2.1) j hj, upd_eqs v5 (fun i hi => (hE3 i hi).2.2.2) j hj⟩⟩, r8, r9⟩, hb⟩
  have z5 : u5 = 0 := Classical.not_not.mp z5
  rw [if_pos (e12.trans z5)] at hX
  rw [if_pos z5] at hY
  obtain ⟨o2, e2, hX⟩ := cal_out hX
  obtain ⟨u7, f7, hY⟩ := cal_out hY
  obtain ⟨s, es, g2, g3, g4, g5, g6, g7, l1, l2, l3, l4, l5, l6, l7⟩ := aQ_ok h ha
  have es : s = L := (congrArg (fun x => x.2.2.2) es).symm
  subst es
  subst hp
  have e2 : o2 = (1, nI s) := by
    rw [e2, g6]
    unfold fX6_blame bfX6_blame_17
    rw [if_pos g2]
  have f7 : u7 = (1, nI s, 1) := by
    rw [f7, rx_faults, if_pos (show mi 33 = 0 from l1), show mi 30 = nI s from l5]
  subst e2 f7
  exact line_end (a := aBad 1 (nI s)) (c := (1, nI s, c.2.2.1, c.2.2.2.1, c.2.2.2.2)) (p := (1, nI s, mi 29, mi 30, mi 31, mi 32, 1)) hn hT (aQ_bad (by decide)) hX hY h26 (fun q => absurd q (by intro q; cases q))
