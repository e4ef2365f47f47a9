/-! families of objects that are written -/
theorem gz_famW3 {ws X Y : va_W} {n : Nat} {ra : Nat → Nat} {ci : Nat} {g : Nat → List Value} {j : Nat} (hw : ws = X ++ gz_fam n ra ci g ++ Y) (h : j < n) : ws[X.length + j]? = some (ra j, .inr (ci, g j)) := by
  rw [hw]
  exact gz_famW h
theorem gz_famP {D : va_G} {cl : List vw_C} {H : Heap} {X Y ws ws2 : va_W} {n : Nat} {ra : Nat → Nat} {ci : Nat} {g g2 : Nat → List Value} {j : Nat} {e : List Value} (hw : ws = X ++ gz_fam n ra ci g ++ Y) (hw2 : ws2 = X ++ gz_fam n ra ci g2 ++ Y) (h : j < n) (hj : g2 j = e) (hg : ∀ i, i ≠ j → g2 i = g i) (hP : va_P D cl (ws.set (X.length + j) (ra j, .inr (ci, e))) H) : va_P D cl ws2 H := by
  rw [hw, gz_famS h hj hg, ← hw2] at hP
  exact hP
theorem gz_famD {A : Nat → Prop} {X Y ws ws2 : va_W} {n : Nat} {ra : Nat → Nat} {ci : Nat} {g g2 : Nat → List Value} {j : Nat} {e : List Value} (hw : ws = X ++ gz_fam n ra ci g ++ Y) (hw2 : ws2 = X ++ gz_fam n ra ci g2 ++ Y) (h : j < n) (hj : g2 j = e) (hg : ∀ i, i ≠ j → g2 i = g i) (hD : va_D A (ws.set (X.length + j) (ra j, .inr (ci, e)))) : va_D A ws2 := by
  rw [hw, gz_famS h hj hg, ← hw2] at hD
  exact hD
theorem gz_clb {x : Int32} {a b : Int} {N : Nat} (h : gi x a b) (hb : b ≤ (N : Int)) : x.toNatClampNeg ≤ N := by
  have := h.2
  show x.toInt.toNat ≤ N
  omega
theorem gz_inR {x : Int32} {n : Nat} (h1 : 0 ≤ x.toInt) (h2 : x.toInt < (n : Int)) : vp_in x n := by
  rw [vp_in_iff]
  omega
theorem gz_fb {x : Int32} (h : gi x 0 1) : fits .boolean (.int x) = true := by
  have h1 := h.1; have h2 := h.2
  rcases (show x.toInt = 0 ∨ x.toInt = 1 by omega) with h | h
  · have : x = 0 := Int32.toInt_inj.mp (by rw [h]; decide)
    rw [this]; rfl
  · have : x = 1 := Int32.toInt_inj.mp (by rw [h]; decide)
    rw [this]; rfl
theorem gz_nlt0 {i : Int32} (h : 0 ≤ i.toInt) : ¬ i < 0 := fun k => by
  have h1 := Int32.lt_iff_toInt_lt.mp k
  have h2 : (0 : Int32).toInt = 0 := by decide
  omega
theorem gz_chi {i : Int32} {n : Nat} (h0 : 0 ≤ i.toInt) (h : i.toInt < (n : Int)) : i.toNatClampNeg < n := by
  show i.toInt.toNat < n
  omega
theorem gz_lenI {r : Int32} {n : Nat} (h : r = nI n) (hn : n ≤ 7) : r.toInt = (n : Int) := by
  rw [h, nI_toInt (by omega)]
theorem gz_len {r : Int32} {n : Nat} (h : r = nI n) (hn : n ≤ 7) : gi r 0 7 := by
  have := gz_lenI h hn
  exact ⟨by omega, by omega⟩
/-- a fact that is kept out of sight -/
def Hid (p : Prop) : Prop := p
theorem Hid.un {p : Prop} (h : Hid p) : p := h
theorem Hid.resL {p q : Prop} (h : Hid (p ∨ q)) (hp : ¬ p) : q := Or.resolve_left h hp
theorem Hid.resR {p q : Prop} (h : Hid (p ∨ q)) (hq : ¬ q) : p := Or.resolve_right h hq
theorem gi_relL {x y : Int32} {a b c d : Int} (h : x.toInt ≤ y.toInt) (hx : gi x a b) (hy : gi y c d) : gi y a d := ⟨Int.le_trans hx.1 h, hy.2⟩

