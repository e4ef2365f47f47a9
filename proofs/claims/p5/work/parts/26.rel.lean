/-! what both objects hold: the tape, the latest fault, the almanac (without its runs) -/
def RDat (mo li hm ms mp pc rc dc : Int32) (nm tr rp rk rm rd rn rs dm dd dl di : Nat → Int32) (mi : Nat → Int32) (fm : Nat → Nat → Int32) : Prop :=
  mo = mi 0 ∧ li = mi 3 ∧ hm = mi 4 ∧ ms = mi 5 ∧ mp = mi 6 ∧ pc = mi 7 ∧ rc = mi 10 ∧ dc = mi 17 ∧
  ((mo.toInt = 0 ∧ li.toInt = 0) ∨ (0 < mo.toInt ∧ 0 < li.toInt)) ∧
  NM pc.toInt.toNat nm (fm 1) ∧ (∀ j, j < pc.toInt.toNat → tr j = fm 0 j) ∧
  (∀ j, j < rc.toInt.toNat → rp j = fm 2 j ∧ rk j = fm 3 j ∧ rm j = fm 5 j ∧ rd j = fm 6 j ∧ rn j = fm 7 j ∧ rs j = fm 4 j ∧ 0 ≤ (rp j).toInt ∧ (rp j).toInt < pc.toInt) ∧
  (∀ j, j < dc.toInt.toNat → dm j = fm 8 j ∧ dd j = fm 9 j ∧ dl j = fm 10 j ∧ di j = fm 11 j)
def REL (vx : Nat → Int32) (fx : Nat → Nat → Int32) (gx : Nat → Nat → Int64) (mi : Nat → Int32) (fm : Nat → Nat → Int32) : Prop :=
  (vx 10 = mi 26 ∧ TR (vx 10).toInt.toNat (fx 0) (fm 13)) ∧ (vx 5 = mi 27 ∧ vx 6 = mi 28) ∧
  RDat (vx 11) (vx 14) (vx 15) (vx 16) (vx 17) (vx 18) (vx 19) (vx 20) (fx 22) (fx 23) (fx 24) (fx 25) (fx 26) (fx 27) (fx 28) (fx 29) (fx 30) (fx 31) (fx 32) (fx 33) mi fm
