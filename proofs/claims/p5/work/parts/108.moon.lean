theorem aExp_true (k : Int32) (a : aS) : aExp true k a = a := by
  sorry
def fp7 (p : M7) (k : Int32) : M7 := if p.2.2.2.2.2.2 = 0 then (k, p.2.2.2.1, p.2.2.1, p.2.2.2.1, p.2.2.2.2.1, p.2.2.2.2.2.1, 1) else p
theorem faults_fp {mi : Nat → Int32} {k : Int32} {o : Int32 × Int32 × Int32} (h : o = fX12_faults mi k) : (o.1, o.2.1, mi 29, mi 30, mi 31, mi 32, o.2.2) = fp7 (own7 mi) k := by
  sorry
theorem r_fault {t : Nat → Int} {n : Nat} {a : aS} {p : M7} (c : Bool) {k : Int32} (hk : k ≠ 0) (h : aR7 t n a p) : aR7 t n (aExp c k a) (if c = true then p else fp7 p k) := by
  sorry
theorem q_head {L n : Nat} {bt tp mi : Nat → Int32} {a : aS} {c : C5} {p : M7} {p1 : Int32} (hn : n ≤ 1600) (hT : TR n bt tp) (h : aQ L n bt a c p) (b : Bool) (hb : p1 = if b = true then 1 else 0) {o : C5} (ho : o = fX6_passHead c.1 c.2.1 c.2.2.1 c.2.2.2.1 c.2.2.2.2 (nI n) bt p1) {F : M7} (hF : F = if b = true then p else fp7 p 3) {u : M7} (hu : u = fX12_passes mi tp 1) (h26 : mi 26 = nI n) (hp : own7 mi = F) : ∃ a', aQ L n bt a' o u ∧ (a'.1 = false → a.1 = false ∧ b = true) := by
  sorry
theorem b_ite {x : Prop} [Decidable x] {α : Type} (u v : α) : (if x then u else v) = if decide x = true then u else v := by
  sorry
theorem ln_moon {L n : Nat} {bt tp mi : Nat → Int32} {a : aS} {c : C5} {p : M7} (hn : n ≤ 1600) (hT : TR n bt tp) (h : aQ L n bt a c p) {eh es ep : Int32} (hm : eh = mi 4) {X : Int32 × Int32 × Int32 × Int32 × Int32 × Int32 × Int32 × Int32} (hX : X = fX6_readMoon c.1 c.2.1 c.2.2.1 c.2.2.2.1 c.2.2.2.2 (nI n) bt eh es ep) {Y : Int32 × Int32 × Int32 × M7} (hY : Y = fX12_readsMoon mi tp) (h26 : mi 26 = nI n) (hp : own7 mi = p) : ∃ a', aQ L n bt a' (X.1, X.2.1, X.2.2.1, X.2.2.2.1, X.2.2.2.2.1) Y.2.2.2 ∧ (a'.1 = false → a.1 = false ∧ X.2.2.2.2.2 = (Y.1, Y.2.1, Y.2.2.1) ∧ Y.1 = 1) := by
  sorry
