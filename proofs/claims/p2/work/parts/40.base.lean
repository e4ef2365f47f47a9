/-! families of objects that are written -/
theorem gz_famW3 {ws X Y : va_W} {n : Nat} {ra : Nat → Nat} {ci : Nat} {g : Nat → List Value} {j : Nat} (hw : ws = X ++ gz_fam n ra ci g ++ Y) (h : j < n) : ws[X.length + j]? = some (ra j, .inr (ci, g j)) := by
  rw [hw]
  exact gz_famW h
theorem gz_famP {D : va_G} {cl : List vw_C} {H : Heap} {X Y ws ws2 : va_W} {n : Nat} {ra : Nat → Nat} {ci : Nat} {g g2 : Nat → List Value} {j : Nat} {e : List Value} (hw : ws = X ++ gz_fam n ra ci g ++ Y) (hw2 : ws2 = X ++ gz_fam n ra ci g2 ++ Y) (h : j < n) (hj : g2 j = e) (hg : ∀ i, i ≠ j → g2 i = g i) (hP : va_P D cl (ws.set (X.length + j) (ra j, .inr (ci, e))) H) : va_P D cl ws2 H := by
  rw [hw, gz_famS h hj hg, ← hw2] at hP
  exact hP
theorem gz_famD {A : Nat → Prop} {X Y ws ws2 : va_W} {n : Nat} {ra : Nat → Nat} {ci : Nat} {g g2 : Nat → List Value} {j : Nat} {e : List Value} (hw : ws = X ++ gz_fam n ra ci g ++ Y) (hw2 : ws2 = X ++ gz_fam n ra ci g2 ++ Y) (h : j < n) (hj : g2 j = e) (hg : ∀ i, i ≠ j → g2 i = g i) (hD : va_D A (ws.set (X.length + j) (ra j, .inr (ci, e)))) : va_D A ws2 := by
  rw [hw, gz_famS h hj hg, ← hw2] at hD
  exact hD
theorem gz_clb {x : Int32} {a b : Int} {N : Nat} (h : gi x a b) (hb : b ≤ (N : Int)) : x.toNatClampNeg ≤ N := by
  have := h.2
  show x.toInt.toNat ≤ N
  omega
theorem gz_inR {x : Int32} {n : Nat} (h1 : 0 ≤ x.toInt) (h2 : x.toInt < (n : Int)) : vp_in x n := by
  rw [vp_in_iff]
  omega
theorem gz_fb {x : Int32} (h : gi x 0 1) : fits .boolean (.int x) = true := by
  have h1 := h.1; have h2 := h.2
  rcases (show x.toInt = 0 ∨ x.toInt = 1 by omega) with h | h
  · have : x = 0 := Int32.toInt_inj.mp (by rw [h]; decide)
    rw [this]; rfl
  · have : x = 1 := Int32.toInt_inj.mp (by rw [h]; decide)
    rw [this]; rfl

