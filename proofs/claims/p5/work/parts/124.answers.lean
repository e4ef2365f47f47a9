theorem n10 : ¬ (1 : Int32) = 0 := by decide
theorem fl_report {mi xp xk xm xd xn xs yp yk ym yd yn ys : Nat → Int32} {r : Nat} (hr : r ≤ 24) (h10 : mi 10 = nI r) (hE : ∀ j, j < r → (xp j = yp j ∧ xk j = yk j ∧ xm j = ym j ∧ xd j = yd j ∧ xn j = yn j ∧ xs j = ys j)) (p1 p2 : Int32) : fX11_report (nI r) xp xk xm xd xn xs p1 p2 = fX12_report mi ys yn yp ym yd yk p1 p2 := by
  sorry
theorem fl_deed {mi xa xb xl xi ya yb yl yi : Nat → Int32} {d : Nat} (hd : d ≤ 8) (h17 : mi 17 = nI d) (hE : ∀ j, j < d → xa j = ya j ∧ xb j = yb j ∧ xl j = yl j ∧ xi j = yi j) (hk : ∀ j, j < d → xi j = 0 ∨ xi j = 1) (p1 p2 : Int32) : fX11_deed (nI d) xa xb xl xi p1 p2 = fX12_deed mi ya yl yi yb p1 p2 := by
  sorry
theorem fl_early {mi : Nat → Int32} (p1 : Int32) : fX11_early (mi 0) (mi 4) (mi 5) (mi 6) p1 = fX12_early mi p1 := by
  sorry
theorem kn_eq (xn xs : Nat → Int32) (v p1 : Int32) : fX7_isKnownBy (xn v.toNatClampNeg) (xs v.toNatClampNeg) p1 = fX12_isKnown xs xn v p1 := rfl
theorem bl_x (a b : Int32) (xk xm xn xs : Nat → Int32) (p1 p2 : Int32) (z : Nat) (v3 v4 : Int32) : lfX11_blind a b xk xm xn xs p1 p2 (z + 1) v3 v4 = dfX11_blind_34 a b xk xm xn xs p1 p2 (lfX11_blind a b xk xm xn xs p1 p2 z) v3 v4 := rfl
theorem bl_m (mi ys yn ym yk : Nat → Int32) (p1 p2 : Int32) (z : Nat) (v3 v4 : Int32) : lfX12_blind mi ys yn ym yk p1 p2 (z + 1) v3 v4 = dfX12_blind_32 mi ys yn ym yk p1 p2 (lfX12_blind mi ys yn ym yk p1 p2 z) v3 v4 := rfl
theorem bl_loop {mi xk xm xn xs yk ym yn ys : Nat → Int32} {mo : Int32} {r : Nat} (hr : r ≤ 24) (h10 : mi 10 = nI r) (hE : ∀ j, j < r → xk j = yk j ∧ xm j = ym j ∧ xn j = yn j ∧ xs j = ys j) (p1 p2 : Int32) : ∀ (k i z y : Nat) (v : Int32), i + k = r → k < z → k < y → (v = 0 ∨ v = 1) → lfX11_blind mo (nI r) xk xm xn xs p1 p2 z v (nI i) = lfX12_blind mi ys yn ym yk p1 p2 y v (nI i) := by
  sorry
theorem fl_blind {mi xk xm xn xs yk ym yn ys : Nat → Int32} {r : Nat} (hr : r ≤ 24) (h10 : mi 10 = nI r) (hE : ∀ j, j < r → xk j = yk j ∧ xm j = ym j ∧ xn j = yn j ∧ xs j = ys j) (hM : 0 < (mi 0).toInt ↔ 0 < (mi 3).toInt) (h0 : 0 ≤ (mi 0).toInt) (h1 : (mi 0).toInt ≤ 24) (p1 p2 : Int32) : fX11_blind (mi 0) (nI r) xk xm xn xs p1 p2 = fX12_blind mi ys yn ym yk p1 p2 := by
  sorry
