theorem upd_same {f : Nat → Int32} {k : Nat} {x : Int32} (h : f k = x) : upd f k x = f := by
  rw [← h]
  exact upd_self f k
theorem upd_app (f : Nat → Int32) (i : Nat) (x : Int32) (j : Nat) : upd f i x j = if j = i then x else f j := rfl
theorem gf_callm {α β : Type} {f : α → β} {a b c : α} {r : β} (hE : a = c) (hF : cal f b = r) (hb : b = c) : f a = r := by rw [hE, ← hb]; exact hF
